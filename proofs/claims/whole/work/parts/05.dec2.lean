theorem dX7_init_0 : decode cX7_init 0 = .ok (.aload_n 0, 1) := by decide +kernel
theorem dX7_init_1 : decode cX7_init 1 = .ok (.invokespecial 1, 3) := by decide +kernel
theorem dX7_init_4 : decode cX7_init 4 = .ok (.aload_n 0, 1) := by decide +kernel
theorem dX7_init_5 : decode cX7_init 5 = .ok (.new 7, 3) := by decide +kernel
theorem dX7_init_8 : decode cX7_init 8 = .ok (.dup, 1) := by decide +kernel
theorem dX7_init_9 : decode cX7_init 9 = .ok (.invokespecial 9, 3) := by decide +kernel
theorem dX7_init_12 : decode cX7_init 12 = .ok (.putfield 10, 3) := by decide +kernel
theorem dX7_init_15 : decode cX7_init 15 = .ok (.aload_n 0, 1) := by decide +kernel
theorem dX7_init_16 : decode cX7_init 16 = .ok (.new 16, 3) := by decide +kernel
theorem dX7_init_19 : decode cX7_init 19 = .ok (.dup, 1) := by decide +kernel
theorem dX7_init_20 : decode cX7_init 20 = .ok (.aload_n 0, 1) := by decide +kernel
theorem dX7_init_21 : decode cX7_init 21 = .ok (.getfield 10, 3) := by decide +kernel
theorem dX7_init_24 : decode cX7_init 24 = .ok (.invokespecial 18, 3) := by decide +kernel
theorem dX7_init_27 : decode cX7_init 27 = .ok (.putfield 21, 3) := by decide +kernel
theorem dX7_init_30 : decode cX7_init 30 = .ok (.aload_n 0, 1) := by decide +kernel
theorem dX7_init_31 : decode cX7_init 31 = .ok (.new 25, 3) := by decide +kernel
theorem dX7_init_34 : decode cX7_init 34 = .ok (.dup, 1) := by decide +kernel
theorem dX7_init_35 : decode cX7_init 35 = .ok (.aload_n 0, 1) := by decide +kernel
theorem dX7_init_36 : decode cX7_init 36 = .ok (.getfield 10, 3) := by decide +kernel
theorem dX7_init_39 : decode cX7_init 39 = .ok (.invokespecial 27, 3) := by decide +kernel
theorem dX7_init_42 : decode cX7_init 42 = .ok (.putfield 28, 3) := by decide +kernel
theorem dX7_init_45 : decode cX7_init 45 = .ok (.aload_n 0, 1) := by decide +kernel
theorem dX7_init_46 : decode cX7_init 46 = .ok (.new 32, 3) := by decide +kernel
theorem dX7_init_49 : decode cX7_init 49 = .ok (.dup, 1) := by decide +kernel
theorem dX7_init_50 : decode cX7_init 50 = .ok (.aload_n 0, 1) := by decide +kernel
theorem dX7_init_51 : decode cX7_init 51 = .ok (.getfield 10, 3) := by decide +kernel
theorem dX7_init_54 : decode cX7_init 54 = .ok (.invokespecial 34, 3) := by decide +kernel
theorem dX7_init_57 : decode cX7_init 57 = .ok (.putfield 35, 3) := by decide +kernel
theorem dX7_init_60 : decode cX7_init 60 = .ok (.aload_n 0, 1) := by decide +kernel
theorem dX7_init_61 : decode cX7_init 61 = .ok (.new 39, 3) := by decide +kernel
theorem dX7_init_64 : decode cX7_init 64 = .ok (.dup, 1) := by decide +kernel
theorem dX7_init_65 : decode cX7_init 65 = .ok (.aload_n 0, 1) := by decide +kernel
theorem dX7_init_66 : decode cX7_init 66 = .ok (.getfield 10, 3) := by decide +kernel
theorem dX7_init_69 : decode cX7_init 69 = .ok (.aload_n 0, 1) := by decide +kernel
theorem dX7_init_70 : decode cX7_init 70 = .ok (.getfield 35, 3) := by decide +kernel
theorem dX7_init_73 : decode cX7_init 73 = .ok (.invokespecial 41, 3) := by decide +kernel
theorem dX7_init_76 : decode cX7_init 76 = .ok (.putfield 44, 3) := by decide +kernel
theorem dX7_init_79 : decode cX7_init 79 = .ok (.aload_n 0, 1) := by decide +kernel
theorem dX7_init_80 : decode cX7_init 80 = .ok (.new 48, 3) := by decide +kernel
theorem dX7_init_83 : decode cX7_init 83 = .ok (.dup, 1) := by decide +kernel
theorem dX7_init_84 : decode cX7_init 84 = .ok (.aload_n 0, 1) := by decide +kernel
theorem dX7_init_85 : decode cX7_init 85 = .ok (.getfield 10, 3) := by decide +kernel
theorem dX7_init_88 : decode cX7_init 88 = .ok (.aload_n 0, 1) := by decide +kernel
theorem dX7_init_89 : decode cX7_init 89 = .ok (.getfield 35, 3) := by decide +kernel
theorem dX7_init_92 : decode cX7_init 92 = .ok (.aload_n 0, 1) := by decide +kernel
theorem dX7_init_93 : decode cX7_init 93 = .ok (.getfield 44, 3) := by decide +kernel
theorem dX7_init_96 : decode cX7_init 96 = .ok (.invokespecial 50, 3) := by decide +kernel
theorem dX7_init_99 : decode cX7_init 99 = .ok (.putfield 53, 3) := by decide +kernel
theorem dX7_init_102 : decode cX7_init 102 = .ok (.return_, 1) := by decide +kernel
theorem dX7_feed_0 : decode cX7_feed 0 = .ok (.aload_n 0, 1) := by decide +kernel
theorem dX7_feed_1 : decode cX7_feed 1 = .ok (.getfield 21, 3) := by decide +kernel
theorem dX7_feed_4 : decode cX7_feed 4 = .ok (.invokevirtual 57, 3) := by decide +kernel
theorem dX7_feed_7 : decode cX7_feed 7 = .ok (.bipush 20, 2) := by decide +kernel
theorem dX7_feed_9 : decode cX7_feed 9 = .ok (.iadd, 1) := by decide +kernel
theorem dX7_feed_10 : decode cX7_feed 10 = .ok (.sipush 400, 3) := by decide +kernel
theorem dX7_feed_13 : decode cX7_feed 13 = .ok (.if_icmp .le 13, 3) := by decide +kernel
theorem dX7_feed_16 : decode cX7_feed 16 = .ok (.new 61, 3) := by decide +kernel
theorem dX7_feed_19 : decode cX7_feed 19 = .ok (.dup, 1) := by decide +kernel
theorem dX7_feed_20 : decode cX7_feed 20 = .ok (.ldc 63, 2) := by decide +kernel
theorem dX7_feed_22 : decode cX7_feed 22 = .ok (.invokespecial 65, 3) := by decide +kernel
theorem dX7_feed_25 : decode cX7_feed 25 = .ok (.athrow, 1) := by decide +kernel
theorem dX7_feed_26 : decode cX7_feed 26 = .ok (.aload_n 0, 1) := by decide +kernel
theorem dX7_feed_27 : decode cX7_feed 27 = .ok (.getfield 21, 3) := by decide +kernel
theorem dX7_feed_30 : decode cX7_feed 30 = .ok (.iload_n 1, 1) := by decide +kernel
theorem dX7_feed_31 : decode cX7_feed 31 = .ok (.invokevirtual 68, 3) := by decide +kernel
theorem dX7_feed_34 : decode cX7_feed 34 = .ok (.aload_n 0, 1) := by decide +kernel
theorem dX7_feed_35 : decode cX7_feed 35 = .ok (.getfield 21, 3) := by decide +kernel
theorem dX7_feed_38 : decode cX7_feed 38 = .ok (.iload_n 2, 1) := by decide +kernel
theorem dX7_feed_39 : decode cX7_feed 39 = .ok (.invokevirtual 68, 3) := by decide +kernel
theorem dX7_feed_42 : decode cX7_feed 42 = .ok (.aload_n 0, 1) := by decide +kernel
theorem dX7_feed_43 : decode cX7_feed 43 = .ok (.getfield 21, 3) := by decide +kernel
theorem dX7_feed_46 : decode cX7_feed 46 = .ok (.iload_n 3, 1) := by decide +kernel
theorem dX7_feed_47 : decode cX7_feed 47 = .ok (.invokevirtual 68, 3) := by decide +kernel
theorem dX7_feed_50 : decode cX7_feed 50 = .ok (.aload_n 0, 1) := by decide +kernel
theorem dX7_feed_51 : decode cX7_feed 51 = .ok (.getfield 21, 3) := by decide +kernel
theorem dX7_feed_54 : decode cX7_feed 54 = .ok (.iload 4, 2) := by decide +kernel
theorem dX7_feed_56 : decode cX7_feed 56 = .ok (.invokevirtual 68, 3) := by decide +kernel
theorem dX7_feed_59 : decode cX7_feed 59 = .ok (.aload_n 0, 1) := by decide +kernel
theorem dX7_feed_60 : decode cX7_feed 60 = .ok (.getfield 21, 3) := by decide +kernel
theorem dX7_feed_63 : decode cX7_feed 63 = .ok (.iload 5, 2) := by decide +kernel
theorem dX7_feed_65 : decode cX7_feed 65 = .ok (.invokevirtual 68, 3) := by decide +kernel
theorem dX7_feed_68 : decode cX7_feed 68 = .ok (.aload_n 0, 1) := by decide +kernel
theorem dX7_feed_69 : decode cX7_feed 69 = .ok (.getfield 21, 3) := by decide +kernel
theorem dX7_feed_72 : decode cX7_feed 72 = .ok (.invokevirtual 57, 3) := by decide +kernel
theorem dX7_feed_75 : decode cX7_feed 75 = .ok (.ireturn, 1) := by decide +kernel
theorem dX7_trim_0 : decode cX7_trim 0 = .ok (.iload_n 1, 1) := by decide +kernel
theorem dX7_trim_1 : decode cX7_trim 1 = .ok (.ifCond .lt 14, 3) := by decide +kernel
theorem dX7_trim_4 : decode cX7_trim 4 = .ok (.iload_n 1, 1) := by decide +kernel
theorem dX7_trim_5 : decode cX7_trim 5 = .ok (.aload_n 0, 1) := by decide +kernel
theorem dX7_trim_6 : decode cX7_trim 6 = .ok (.getfield 21, 3) := by decide +kernel
theorem dX7_trim_9 : decode cX7_trim 9 = .ok (.invokevirtual 57, 3) := by decide +kernel
theorem dX7_trim_12 : decode cX7_trim 12 = .ok (.if_icmp .le 13, 3) := by decide +kernel
theorem dX7_trim_15 : decode cX7_trim 15 = .ok (.new 72, 3) := by decide +kernel
theorem dX7_trim_18 : decode cX7_trim 18 = .ok (.dup, 1) := by decide +kernel
theorem dX7_trim_19 : decode cX7_trim 19 = .ok (.ldc 74, 2) := by decide +kernel
theorem dX7_trim_21 : decode cX7_trim 21 = .ok (.invokespecial 76, 3) := by decide +kernel
theorem dX7_trim_24 : decode cX7_trim 24 = .ok (.athrow, 1) := by decide +kernel
theorem dX7_trim_25 : decode cX7_trim 25 = .ok (.aload_n 0, 1) := by decide +kernel
theorem dX7_trim_26 : decode cX7_trim 26 = .ok (.getfield 21, 3) := by decide +kernel
theorem dX7_trim_29 : decode cX7_trim 29 = .ok (.iload_n 1, 1) := by decide +kernel
theorem dX7_trim_30 : decode cX7_trim 30 = .ok (.invokevirtual 77, 3) := by decide +kernel
theorem dX7_trim_33 : decode cX7_trim 33 = .ok (.iload_n 1, 1) := by decide +kernel
theorem dX7_trim_34 : decode cX7_trim 34 = .ok (.ireturn, 1) := by decide +kernel
theorem dX7_read_0 : decode cX7_read 0 = .ok (.aload_n 0, 1) := by decide +kernel
theorem dX7_read_1 : decode cX7_read 1 = .ok (.getfield 21, 3) := by decide +kernel
theorem dX7_read_4 : decode cX7_read 4 = .ok (.invokevirtual 80, 3) := by decide +kernel
theorem dX7_read_7 : decode cX7_read 7 = .ok (.ireturn, 1) := by decide +kernel
theorem dX7_errorAt_0 : decode cX7_errorAt 0 = .ok (.aload_n 0, 1) := by decide +kernel
theorem dX7_errorAt_1 : decode cX7_errorAt 1 = .ok (.getfield 21, 3) := by decide +kernel
theorem dX7_errorAt_4 : decode cX7_errorAt 4 = .ok (.invokevirtual 83, 3) := by decide +kernel
theorem dX7_errorAt_7 : decode cX7_errorAt 7 = .ok (.ireturn, 1) := by decide +kernel
theorem dX7_make_0 : decode cX7_make 0 = .ok (.iload_n 1, 1) := by decide +kernel
theorem dX7_make_1 : decode cX7_make 1 = .ok (.ifCond .lt 8, 3) := by decide +kernel
theorem dX7_make_4 : decode cX7_make 4 = .ok (.iload_n 1, 1) := by decide +kernel
theorem dX7_make_5 : decode cX7_make 5 = .ok (.iconst 5, 1) := by decide +kernel
theorem dX7_make_6 : decode cX7_make 6 = .ok (.if_icmp .le 13, 3) := by decide +kernel
theorem dX7_make_9 : decode cX7_make 9 = .ok (.new 72, 3) := by decide +kernel
theorem dX7_make_12 : decode cX7_make 12 = .ok (.dup, 1) := by decide +kernel
theorem dX7_make_13 : decode cX7_make 13 = .ok (.ldc 86, 2) := by decide +kernel
theorem dX7_make_15 : decode cX7_make 15 = .ok (.invokespecial 76, 3) := by decide +kernel
theorem dX7_make_18 : decode cX7_make 18 = .ok (.athrow, 1) := by decide +kernel
theorem dX7_make_19 : decode cX7_make 19 = .ok (.iload_n 1, 1) := by decide +kernel
theorem dX7_make_20 : decode cX7_make 20 = .ok (.ifCond .ne 23, 3) := by decide +kernel
theorem dX7_make_23 : decode cX7_make 23 = .ok (.iload_n 2, 1) := by decide +kernel
theorem dX7_make_24 : decode cX7_make 24 = .ok (.ifCond .lt 9, 3) := by decide +kernel
theorem dX7_make_27 : decode cX7_make 27 = .ok (.iload_n 2, 1) := by decide +kernel
theorem dX7_make_28 : decode cX7_make 28 = .ok (.bipush 8, 2) := by decide +kernel
theorem dX7_make_30 : decode cX7_make 30 = .ok (.if_icmp .lt 13, 3) := by decide +kernel
theorem dX7_make_33 : decode cX7_make 33 = .ok (.new 72, 3) := by decide +kernel
theorem dX7_make_36 : decode cX7_make 36 = .ok (.dup, 1) := by decide +kernel
theorem dX7_make_37 : decode cX7_make 37 = .ok (.ldc 88, 2) := by decide +kernel
theorem dX7_make_39 : decode cX7_make 39 = .ok (.invokespecial 76, 3) := by decide +kernel
theorem dX7_make_42 : decode cX7_make 42 = .ok (.athrow, 1) := by decide +kernel
theorem dX7_make_43 : decode cX7_make 43 = .ok (.aload_n 0, 1) := by decide +kernel
theorem dX7_make_44 : decode cX7_make 44 = .ok (.getfield 10, 3) := by decide +kernel
theorem dX7_make_47 : decode cX7_make 47 = .ok (.iload_n 1, 1) := by decide +kernel
theorem dX7_make_48 : decode cX7_make 48 = .ok (.iload_n 2, 1) := by decide +kernel
theorem dX7_make_49 : decode cX7_make 49 = .ok (.iload_n 3, 1) := by decide +kernel
theorem dX7_make_50 : decode cX7_make 50 = .ok (.invokevirtual 90, 3) := by decide +kernel
theorem dX7_make_53 : decode cX7_make 53 = .ok (.ifCond .ne 13, 3) := by decide +kernel
theorem dX7_make_56 : decode cX7_make 56 = .ok (.new 94, 3) := by decide +kernel
theorem dX7_make_59 : decode cX7_make 59 = .ok (.dup, 1) := by decide +kernel
theorem dX7_make_60 : decode cX7_make 60 = .ok (.ldc 96, 2) := by decide +kernel
theorem dX7_make_62 : decode cX7_make 62 = .ok (.invokespecial 98, 3) := by decide +kernel
theorem dX7_make_65 : decode cX7_make 65 = .ok (.athrow, 1) := by decide +kernel
theorem dX7_make_66 : decode cX7_make 66 = .ok (.aload_n 0, 1) := by decide +kernel
theorem dX7_make_67 : decode cX7_make 67 = .ok (.getfield 10, 3) := by decide +kernel
theorem dX7_make_70 : decode cX7_make 70 = .ok (.iload_n 1, 1) := by decide +kernel
theorem dX7_make_71 : decode cX7_make 71 = .ok (.iload_n 2, 1) := by decide +kernel
theorem dX7_make_72 : decode cX7_make 72 = .ok (.iload_n 3, 1) := by decide +kernel
theorem dX7_make_73 : decode cX7_make 73 = .ok (.invokevirtual 99, 3) := by decide +kernel
theorem dX7_make_76 : decode cX7_make 76 = .ok (.istore 4, 2) := by decide +kernel
theorem dX7_make_78 : decode cX7_make 78 = .ok (.iload 4, 2) := by decide +kernel
theorem dX7_make_80 : decode cX7_make 80 = .ok (.ifCond .ge 13, 3) := by decide +kernel
theorem dX7_make_83 : decode cX7_make 83 = .ok (.new 61, 3) := by decide +kernel
theorem dX7_make_86 : decode cX7_make 86 = .ok (.dup, 1) := by decide +kernel
theorem dX7_make_87 : decode cX7_make 87 = .ok (.ldc 103, 2) := by decide +kernel
theorem dX7_make_89 : decode cX7_make 89 = .ok (.invokespecial 65, 3) := by decide +kernel
theorem dX7_make_92 : decode cX7_make 92 = .ok (.athrow, 1) := by decide +kernel
theorem dX7_make_93 : decode cX7_make 93 = .ok (.iload 4, 2) := by decide +kernel
theorem dX7_make_95 : decode cX7_make 95 = .ok (.ireturn, 1) := by decide +kernel
theorem dX7_formula_0 : decode cX7_formula 0 = .ok (.aload_n 0, 1) := by decide +kernel
theorem dX7_formula_1 : decode cX7_formula 1 = .ok (.getfield 10, 3) := by decide +kernel
theorem dX7_formula_4 : decode cX7_formula 4 = .ok (.iload_n 1, 1) := by decide +kernel
theorem dX7_formula_5 : decode cX7_formula 5 = .ok (.invokevirtual 105, 3) := by decide +kernel
theorem dX7_formula_8 : decode cX7_formula 8 = .ok (.ifCond .eq 12, 3) := by decide +kernel
theorem dX7_formula_11 : decode cX7_formula 11 = .ok (.iload_n 2, 1) := by decide +kernel
theorem dX7_formula_12 : decode cX7_formula 12 = .ok (.ifCond .lt 8, 3) := by decide +kernel
theorem dX7_formula_15 : decode cX7_formula 15 = .ok (.iload_n 2, 1) := by decide +kernel
theorem dX7_formula_16 : decode cX7_formula 16 = .ok (.iconst 5, 1) := by decide +kernel
theorem dX7_formula_17 : decode cX7_formula 17 = .ok (.if_icmp .le 13, 3) := by decide +kernel
theorem dX7_formula_20 : decode cX7_formula 20 = .ok (.new 94, 3) := by decide +kernel
theorem dX7_formula_23 : decode cX7_formula 23 = .ok (.dup, 1) := by decide +kernel
theorem dX7_formula_24 : decode cX7_formula 24 = .ok (.ldc 109, 2) := by decide +kernel
theorem dX7_formula_26 : decode cX7_formula 26 = .ok (.invokespecial 98, 3) := by decide +kernel
theorem dX7_formula_29 : decode cX7_formula 29 = .ok (.athrow, 1) := by decide +kernel
theorem dX7_formula_30 : decode cX7_formula 30 = .ok (.iload_n 2, 1) := by decide +kernel
theorem dX7_formula_31 : decode cX7_formula 31 = .ok (.tableswitch 78 0 4 #[33, 42, 51, 60, 69], 33) := by decide +kernel
theorem dX7_formula_64 : decode cX7_formula 64 = .ok (.aload_n 0, 1) := by decide +kernel
theorem dX7_formula_65 : decode cX7_formula 65 = .ok (.getfield 10, 3) := by decide +kernel
theorem dX7_formula_68 : decode cX7_formula 68 = .ok (.iload_n 1, 1) := by decide +kernel
theorem dX7_formula_69 : decode cX7_formula 69 = .ok (.invokevirtual 111, 3) := by decide +kernel
theorem dX7_formula_72 : decode cX7_formula 72 = .ok (.ireturn, 1) := by decide +kernel
theorem dX7_formula_73 : decode cX7_formula 73 = .ok (.aload_n 0, 1) := by decide +kernel
theorem dX7_formula_74 : decode cX7_formula 74 = .ok (.getfield 10, 3) := by decide +kernel
theorem dX7_formula_77 : decode cX7_formula 77 = .ok (.iload_n 1, 1) := by decide +kernel
theorem dX7_formula_78 : decode cX7_formula 78 = .ok (.invokevirtual 115, 3) := by decide +kernel
theorem dX7_formula_81 : decode cX7_formula 81 = .ok (.ireturn, 1) := by decide +kernel
theorem dX7_formula_82 : decode cX7_formula 82 = .ok (.aload_n 0, 1) := by decide +kernel
theorem dX7_formula_83 : decode cX7_formula 83 = .ok (.getfield 10, 3) := by decide +kernel
theorem dX7_formula_86 : decode cX7_formula 86 = .ok (.iload_n 1, 1) := by decide +kernel
theorem dX7_formula_87 : decode cX7_formula 87 = .ok (.invokevirtual 118, 3) := by decide +kernel
theorem dX7_formula_90 : decode cX7_formula 90 = .ok (.ireturn, 1) := by decide +kernel
theorem dX7_formula_91 : decode cX7_formula 91 = .ok (.aload_n 0, 1) := by decide +kernel
theorem dX7_formula_92 : decode cX7_formula 92 = .ok (.getfield 10, 3) := by decide +kernel
theorem dX7_formula_95 : decode cX7_formula 95 = .ok (.iload_n 1, 1) := by decide +kernel
theorem dX7_formula_96 : decode cX7_formula 96 = .ok (.invokevirtual 121, 3) := by decide +kernel
theorem dX7_formula_99 : decode cX7_formula 99 = .ok (.ireturn, 1) := by decide +kernel
theorem dX7_formula_100 : decode cX7_formula 100 = .ok (.aload_n 0, 1) := by decide +kernel
theorem dX7_formula_101 : decode cX7_formula 101 = .ok (.getfield 10, 3) := by decide +kernel
theorem dX7_formula_104 : decode cX7_formula 104 = .ok (.iload_n 1, 1) := by decide +kernel
theorem dX7_formula_105 : decode cX7_formula 105 = .ok (.invokevirtual 124, 3) := by decide +kernel
theorem dX7_formula_108 : decode cX7_formula 108 = .ok (.ireturn, 1) := by decide +kernel
theorem dX7_formula_109 : decode cX7_formula 109 = .ok (.aload_n 0, 1) := by decide +kernel
theorem dX7_formula_110 : decode cX7_formula 110 = .ok (.getfield 10, 3) := by decide +kernel
theorem dX7_formula_113 : decode cX7_formula 113 = .ok (.iload_n 1, 1) := by decide +kernel
theorem dX7_formula_114 : decode cX7_formula 114 = .ok (.invokevirtual 127, 3) := by decide +kernel
theorem dX7_formula_117 : decode cX7_formula 117 = .ok (.ireturn, 1) := by decide +kernel
theorem dX7_isTrue_0 : decode cX7_isTrue 0 = .ok (.aload_n 0, 1) := by decide +kernel
theorem dX7_isTrue_1 : decode cX7_isTrue 1 = .ok (.getfield 10, 3) := by decide +kernel
theorem dX7_isTrue_4 : decode cX7_isTrue 4 = .ok (.iload_n 1, 1) := by decide +kernel
theorem dX7_isTrue_5 : decode cX7_isTrue 5 = .ok (.invokevirtual 105, 3) := by decide +kernel
theorem dX7_isTrue_8 : decode cX7_isTrue 8 = .ok (.ifCond .ne 13, 3) := by decide +kernel
theorem dX7_isTrue_11 : decode cX7_isTrue 11 = .ok (.new 94, 3) := by decide +kernel
theorem dX7_isTrue_14 : decode cX7_isTrue 14 = .ok (.dup, 1) := by decide +kernel
theorem dX7_isTrue_15 : decode cX7_isTrue 15 = .ok (.ldc 129, 2) := by decide +kernel
theorem dX7_isTrue_17 : decode cX7_isTrue 17 = .ok (.invokespecial 98, 3) := by decide +kernel
theorem dX7_isTrue_20 : decode cX7_isTrue 20 = .ok (.athrow, 1) := by decide +kernel
theorem dX7_isTrue_21 : decode cX7_isTrue 21 = .ok (.iload_n 2, 1) := by decide +kernel
theorem dX7_isTrue_22 : decode cX7_isTrue 22 = .ok (.ifCond .lt 10, 3) := by decide +kernel
theorem dX7_isTrue_25 : decode cX7_isTrue 25 = .ok (.iload_n 2, 1) := by decide +kernel
theorem dX7_isTrue_26 : decode cX7_isTrue 26 = .ok (.sipush 256, 3) := by decide +kernel
theorem dX7_isTrue_29 : decode cX7_isTrue 29 = .ok (.if_icmp .lt 13, 3) := by decide +kernel
theorem dX7_isTrue_32 : decode cX7_isTrue 32 = .ok (.new 72, 3) := by decide +kernel
theorem dX7_isTrue_35 : decode cX7_isTrue 35 = .ok (.dup, 1) := by decide +kernel
theorem dX7_isTrue_36 : decode cX7_isTrue 36 = .ok (.ldc 131, 2) := by decide +kernel
theorem dX7_isTrue_38 : decode cX7_isTrue 38 = .ok (.invokespecial 76, 3) := by decide +kernel
theorem dX7_isTrue_41 : decode cX7_isTrue 41 = .ok (.athrow, 1) := by decide +kernel
theorem dX7_isTrue_42 : decode cX7_isTrue 42 = .ok (.aload_n 0, 1) := by decide +kernel
theorem dX7_isTrue_43 : decode cX7_isTrue 43 = .ok (.getfield 10, 3) := by decide +kernel
theorem dX7_isTrue_46 : decode cX7_isTrue 46 = .ok (.iload_n 1, 1) := by decide +kernel
theorem dX7_isTrue_47 : decode cX7_isTrue 47 = .ok (.iload_n 2, 1) := by decide +kernel
theorem dX7_isTrue_48 : decode cX7_isTrue 48 = .ok (.bipush 6, 2) := by decide +kernel
theorem dX7_isTrue_50 : decode cX7_isTrue 50 = .ok (.ishr, 1) := by decide +kernel
theorem dX7_isTrue_51 : decode cX7_isTrue 51 = .ok (.invokevirtual 133, 3) := by decide +kernel
theorem dX7_isTrue_54 : decode cX7_isTrue 54 = .ok (.iload_n 2, 1) := by decide +kernel
theorem dX7_isTrue_55 : decode cX7_isTrue 55 = .ok (.bipush 63, 2) := by decide +kernel
theorem dX7_isTrue_57 : decode cX7_isTrue 57 = .ok (.iand, 1) := by decide +kernel
theorem dX7_isTrue_58 : decode cX7_isTrue 58 = .ok (.lushr, 1) := by decide +kernel
theorem dX7_isTrue_59 : decode cX7_isTrue 59 = .ok (.lconst 1, 1) := by decide +kernel
theorem dX7_isTrue_60 : decode cX7_isTrue 60 = .ok (.land, 1) := by decide +kernel
theorem dX7_isTrue_61 : decode cX7_isTrue 61 = .ok (.lconst 0, 1) := by decide +kernel
theorem dX7_isTrue_62 : decode cX7_isTrue 62 = .ok (.lcmp, 1) := by decide +kernel
theorem dX7_isTrue_63 : decode cX7_isTrue 63 = .ok (.ifCond .eq 7, 3) := by decide +kernel
theorem dX7_isTrue_66 : decode cX7_isTrue 66 = .ok (.iconst 1, 1) := by decide +kernel
theorem dX7_isTrue_67 : decode cX7_isTrue 67 = .ok (.goto 4, 3) := by decide +kernel
theorem dX7_isTrue_70 : decode cX7_isTrue 70 = .ok (.iconst 0, 1) := by decide +kernel
theorem dX7_isTrue_71 : decode cX7_isTrue 71 = .ok (.ireturn, 1) := by decide +kernel
theorem dX7_write_0 : decode cX7_write 0 = .ok (.aload_n 0, 1) := by decide +kernel
theorem dX7_write_1 : decode cX7_write 1 = .ok (.getfield 10, 3) := by decide +kernel
theorem dX7_write_4 : decode cX7_write 4 = .ok (.iload_n 1, 1) := by decide +kernel
theorem dX7_write_5 : decode cX7_write 5 = .ok (.invokevirtual 105, 3) := by decide +kernel
theorem dX7_write_8 : decode cX7_write 8 = .ok (.ifCond .ne 13, 3) := by decide +kernel
theorem dX7_write_11 : decode cX7_write 11 = .ok (.new 94, 3) := by decide +kernel
theorem dX7_write_14 : decode cX7_write 14 = .ok (.dup, 1) := by decide +kernel
theorem dX7_write_15 : decode cX7_write 15 = .ok (.ldc 129, 2) := by decide +kernel
theorem dX7_write_17 : decode cX7_write 17 = .ok (.invokespecial 98, 3) := by decide +kernel
theorem dX7_write_20 : decode cX7_write 20 = .ok (.athrow, 1) := by decide +kernel
theorem dX7_write_21 : decode cX7_write 21 = .ok (.aload_n 0, 1) := by decide +kernel
theorem dX7_write_22 : decode cX7_write 22 = .ok (.getfield 10, 3) := by decide +kernel
theorem dX7_write_25 : decode cX7_write 25 = .ok (.iload_n 1, 1) := by decide +kernel
theorem dX7_write_26 : decode cX7_write 26 = .ok (.invokevirtual 137, 3) := by decide +kernel
theorem dX7_write_29 : decode cX7_write 29 = .ok (.sipush 400, 3) := by decide +kernel
theorem dX7_write_32 : decode cX7_write 32 = .ok (.if_icmp .le 13, 3) := by decide +kernel
theorem dX7_write_35 : decode cX7_write 35 = .ok (.new 61, 3) := by decide +kernel
theorem dX7_write_38 : decode cX7_write 38 = .ok (.dup, 1) := by decide +kernel
theorem dX7_write_39 : decode cX7_write 39 = .ok (.ldc 140, 2) := by decide +kernel
theorem dX7_write_41 : decode cX7_write 41 = .ok (.invokespecial 65, 3) := by decide +kernel
theorem dX7_write_44 : decode cX7_write 44 = .ok (.athrow, 1) := by decide +kernel
theorem dX7_write_45 : decode cX7_write 45 = .ok (.aload_n 0, 1) := by decide +kernel
theorem dX7_write_46 : decode cX7_write 46 = .ok (.getfield 28, 3) := by decide +kernel
theorem dX7_write_49 : decode cX7_write 49 = .ok (.iload_n 1, 1) := by decide +kernel
theorem dX7_write_50 : decode cX7_write 50 = .ok (.invokevirtual 142, 3) := by decide +kernel
theorem dX7_write_53 : decode cX7_write 53 = .ok (.aload_n 0, 1) := by decide +kernel
theorem dX7_write_54 : decode cX7_write 54 = .ok (.getfield 28, 3) := by decide +kernel
theorem dX7_write_57 : decode cX7_write 57 = .ok (.invokevirtual 145, 3) := by decide +kernel
theorem dX7_write_60 : decode cX7_write 60 = .ok (.ireturn, 1) := by decide +kernel
theorem dX7_byteAt_0 : decode cX7_byteAt 0 = .ok (.iload_n 1, 1) := by decide +kernel
theorem dX7_byteAt_1 : decode cX7_byteAt 1 = .ok (.ifCond .lt 14, 3) := by decide +kernel
theorem dX7_byteAt_4 : decode cX7_byteAt 4 = .ok (.iload_n 1, 1) := by decide +kernel
theorem dX7_byteAt_5 : decode cX7_byteAt 5 = .ok (.aload_n 0, 1) := by decide +kernel
theorem dX7_byteAt_6 : decode cX7_byteAt 6 = .ok (.getfield 28, 3) := by decide +kernel
theorem dX7_byteAt_9 : decode cX7_byteAt 9 = .ok (.invokevirtual 145, 3) := by decide +kernel
theorem dX7_byteAt_12 : decode cX7_byteAt 12 = .ok (.if_icmp .lt 13, 3) := by decide +kernel
theorem dX7_byteAt_15 : decode cX7_byteAt 15 = .ok (.new 94, 3) := by decide +kernel
theorem dX7_byteAt_18 : decode cX7_byteAt 18 = .ok (.dup, 1) := by decide +kernel
theorem dX7_byteAt_19 : decode cX7_byteAt 19 = .ok (.ldc 146, 2) := by decide +kernel
theorem dX7_byteAt_21 : decode cX7_byteAt 21 = .ok (.invokespecial 98, 3) := by decide +kernel
theorem dX7_byteAt_24 : decode cX7_byteAt 24 = .ok (.athrow, 1) := by decide +kernel
theorem dX7_byteAt_25 : decode cX7_byteAt 25 = .ok (.aload_n 0, 1) := by decide +kernel
theorem dX7_byteAt_26 : decode cX7_byteAt 26 = .ok (.getfield 28, 3) := by decide +kernel
theorem dX7_byteAt_29 : decode cX7_byteAt 29 = .ok (.iload_n 1, 1) := by decide +kernel
theorem dX7_byteAt_30 : decode cX7_byteAt 30 = .ok (.invokevirtual 148, 3) := by decide +kernel
theorem dX7_byteAt_33 : decode cX7_byteAt 33 = .ok (.ireturn, 1) := by decide +kernel
theorem dX7_begin_0 : decode cX7_begin 0 = .ok (.aload_n 0, 1) := by decide +kernel
theorem dX7_begin_1 : decode cX7_begin 1 = .ok (.getfield 44, 3) := by decide +kernel
theorem dX7_begin_4 : decode cX7_begin 4 = .ok (.invokevirtual 151, 3) := by decide +kernel
theorem dX7_begin_7 : decode cX7_begin 7 = .ok (.istore_n 1, 1) := by decide +kernel
theorem dX7_begin_8 : decode cX7_begin 8 = .ok (.aload_n 0, 1) := by decide +kernel
theorem dX7_begin_9 : decode cX7_begin 9 = .ok (.getfield 44, 3) := by decide +kernel
theorem dX7_begin_12 : decode cX7_begin 12 = .ok (.invokevirtual 154, 3) := by decide +kernel
theorem dX7_begin_15 : decode cX7_begin 15 = .ok (.iload_n 1, 1) := by decide +kernel
theorem dX7_begin_16 : decode cX7_begin 16 = .ok (.ireturn, 1) := by decide +kernel
theorem dX7_premise_0 : decode cX7_premise 0 = .ok (.aload_n 0, 1) := by decide +kernel
theorem dX7_premise_1 : decode cX7_premise 1 = .ok (.getfield 10, 3) := by decide +kernel
theorem dX7_premise_4 : decode cX7_premise 4 = .ok (.iload_n 1, 1) := by decide +kernel
theorem dX7_premise_5 : decode cX7_premise 5 = .ok (.invokevirtual 105, 3) := by decide +kernel
theorem dX7_premise_8 : decode cX7_premise 8 = .ok (.ifCond .ne 13, 3) := by decide +kernel
theorem dX7_premise_11 : decode cX7_premise 11 = .ok (.new 94, 3) := by decide +kernel
theorem dX7_premise_14 : decode cX7_premise 14 = .ok (.dup, 1) := by decide +kernel
theorem dX7_premise_15 : decode cX7_premise 15 = .ok (.ldc 129, 2) := by decide +kernel
theorem dX7_premise_17 : decode cX7_premise 17 = .ok (.invokespecial 98, 3) := by decide +kernel
theorem dX7_premise_20 : decode cX7_premise 20 = .ok (.athrow, 1) := by decide +kernel
theorem dX7_premise_21 : decode cX7_premise 21 = .ok (.aload_n 0, 1) := by decide +kernel
theorem dX7_premise_22 : decode cX7_premise 22 = .ok (.getfield 44, 3) := by decide +kernel
theorem dX7_premise_25 : decode cX7_premise 25 = .ok (.invokevirtual 157, 3) := by decide +kernel
theorem dX7_premise_28 : decode cX7_premise 28 = .ok (.istore_n 2, 1) := by decide +kernel
theorem dX7_premise_29 : decode cX7_premise 29 = .ok (.iload_n 2, 1) := by decide +kernel
theorem dX7_premise_30 : decode cX7_premise 30 = .ok (.aload_n 0, 1) := by decide +kernel
theorem dX7_premise_31 : decode cX7_premise 31 = .ok (.getfield 44, 3) := by decide +kernel
theorem dX7_premise_34 : decode cX7_premise 34 = .ok (.invokevirtual 151, 3) := by decide +kernel
theorem dX7_premise_37 : decode cX7_premise 37 = .ok (.if_icmp .lt 8, 3) := by decide +kernel
theorem dX7_premise_40 : decode cX7_premise 40 = .ok (.iload_n 2, 1) := by decide +kernel
theorem dX7_premise_41 : decode cX7_premise 41 = .ok (.iconst 2, 1) := by decide +kernel
theorem dX7_premise_42 : decode cX7_premise 42 = .ok (.if_icmp .lt 13, 3) := by decide +kernel
theorem dX7_premise_45 : decode cX7_premise 45 = .ok (.new 61, 3) := by decide +kernel
theorem dX7_premise_48 : decode cX7_premise 48 = .ok (.dup, 1) := by decide +kernel
theorem dX7_premise_49 : decode cX7_premise 49 = .ok (.ldc 160, 2) := by decide +kernel
theorem dX7_premise_51 : decode cX7_premise 51 = .ok (.invokespecial 65, 3) := by decide +kernel
theorem dX7_premise_54 : decode cX7_premise 54 = .ok (.athrow, 1) := by decide +kernel
theorem dX7_premise_55 : decode cX7_premise 55 = .ok (.aload_n 0, 1) := by decide +kernel
theorem dX7_premise_56 : decode cX7_premise 56 = .ok (.getfield 44, 3) := by decide +kernel
theorem dX7_premise_59 : decode cX7_premise 59 = .ok (.iload_n 1, 1) := by decide +kernel
theorem dX7_premise_60 : decode cX7_premise 60 = .ok (.bipush 15, 2) := by decide +kernel
theorem dX7_premise_62 : decode cX7_premise 62 = .ok (.iconst 0, 1) := by decide +kernel
theorem dX7_premise_63 : decode cX7_premise 63 = .ok (.iconst 0, 1) := by decide +kernel
theorem dX7_premise_64 : decode cX7_premise 64 = .ok (.iconst 0, 1) := by decide +kernel
theorem dX7_premise_65 : decode cX7_premise 65 = .ok (.invokevirtual 162, 3) := by decide +kernel
theorem dX7_premise_68 : decode cX7_premise 68 = .ok (.ireturn, 1) := by decide +kernel
theorem dX7_assume_0 : decode cX7_assume 0 = .ok (.aload_n 0, 1) := by decide +kernel
theorem dX7_assume_1 : decode cX7_assume 1 = .ok (.getfield 10, 3) := by decide +kernel
theorem dX7_assume_4 : decode cX7_assume 4 = .ok (.iload_n 1, 1) := by decide +kernel
theorem dX7_assume_5 : decode cX7_assume 5 = .ok (.invokevirtual 105, 3) := by decide +kernel
theorem dX7_assume_8 : decode cX7_assume 8 = .ok (.ifCond .ne 13, 3) := by decide +kernel
theorem dX7_assume_11 : decode cX7_assume 11 = .ok (.new 94, 3) := by decide +kernel
theorem dX7_assume_14 : decode cX7_assume 14 = .ok (.dup, 1) := by decide +kernel
theorem dX7_assume_15 : decode cX7_assume 15 = .ok (.ldc 129, 2) := by decide +kernel
theorem dX7_assume_17 : decode cX7_assume 17 = .ok (.invokespecial 98, 3) := by decide +kernel
theorem dX7_assume_20 : decode cX7_assume 20 = .ok (.athrow, 1) := by decide +kernel
theorem dX7_assume_21 : decode cX7_assume 21 = .ok (.aload_n 0, 1) := by decide +kernel
theorem dX7_assume_22 : decode cX7_assume 22 = .ok (.getfield 44, 3) := by decide +kernel
theorem dX7_assume_25 : decode cX7_assume 25 = .ok (.invokevirtual 166, 3) := by decide +kernel
theorem dX7_assume_28 : decode cX7_assume 28 = .ok (.bipush 6, 2) := by decide +kernel
theorem dX7_assume_30 : decode cX7_assume 30 = .ok (.if_icmp .ge 15, 3) := by decide +kernel
theorem dX7_assume_33 : decode cX7_assume 33 = .ok (.aload_n 0, 1) := by decide +kernel
theorem dX7_assume_34 : decode cX7_assume 34 = .ok (.getfield 44, 3) := by decide +kernel
theorem dX7_assume_37 : decode cX7_assume 37 = .ok (.invokevirtual 151, 3) := by decide +kernel
theorem dX7_assume_40 : decode cX7_assume 40 = .ok (.bipush 60, 2) := by decide +kernel
theorem dX7_assume_42 : decode cX7_assume 42 = .ok (.if_icmp .lt 13, 3) := by decide +kernel
theorem dX7_assume_45 : decode cX7_assume 45 = .ok (.new 61, 3) := by decide +kernel
theorem dX7_assume_48 : decode cX7_assume 48 = .ok (.dup, 1) := by decide +kernel
theorem dX7_assume_49 : decode cX7_assume 49 = .ok (.ldc 169, 2) := by decide +kernel
theorem dX7_assume_51 : decode cX7_assume 51 = .ok (.invokespecial 65, 3) := by decide +kernel
theorem dX7_assume_54 : decode cX7_assume 54 = .ok (.athrow, 1) := by decide +kernel
theorem dX7_assume_55 : decode cX7_assume 55 = .ok (.aload_n 0, 1) := by decide +kernel
theorem dX7_assume_56 : decode cX7_assume 56 = .ok (.getfield 44, 3) := by decide +kernel
theorem dX7_assume_59 : decode cX7_assume 59 = .ok (.invokevirtual 171, 3) := by decide +kernel
theorem dX7_assume_62 : decode cX7_assume 62 = .ok (.aload_n 0, 1) := by decide +kernel
theorem dX7_assume_63 : decode cX7_assume 63 = .ok (.getfield 44, 3) := by decide +kernel
theorem dX7_assume_66 : decode cX7_assume 66 = .ok (.iload_n 1, 1) := by decide +kernel
theorem dX7_assume_67 : decode cX7_assume 67 = .ok (.bipush 14, 2) := by decide +kernel
theorem dX7_assume_69 : decode cX7_assume 69 = .ok (.iconst 0, 1) := by decide +kernel
theorem dX7_assume_70 : decode cX7_assume 70 = .ok (.iconst 0, 1) := by decide +kernel
theorem dX7_assume_71 : decode cX7_assume 71 = .ok (.iconst 0, 1) := by decide +kernel
theorem dX7_assume_72 : decode cX7_assume 72 = .ok (.invokevirtual 162, 3) := by decide +kernel
theorem dX7_assume_75 : decode cX7_assume 75 = .ok (.ireturn, 1) := by decide +kernel
theorem dX7_close_0 : decode cX7_close 0 = .ok (.aload_n 0, 1) := by decide +kernel
theorem dX7_close_1 : decode cX7_close 1 = .ok (.getfield 44, 3) := by decide +kernel
theorem dX7_close_4 : decode cX7_close 4 = .ok (.invokevirtual 166, 3) := by decide +kernel
theorem dX7_close_7 : decode cX7_close 7 = .ok (.ifCond .gt 13, 3) := by decide +kernel
theorem dX7_close_10 : decode cX7_close 10 = .ok (.new 61, 3) := by decide +kernel
theorem dX7_close_13 : decode cX7_close 13 = .ok (.dup, 1) := by decide +kernel
theorem dX7_close_14 : decode cX7_close 14 = .ok (.ldc 174, 2) := by decide +kernel
theorem dX7_close_16 : decode cX7_close 16 = .ok (.invokespecial 65, 3) := by decide +kernel
theorem dX7_close_19 : decode cX7_close 19 = .ok (.athrow, 1) := by decide +kernel
theorem dX7_close_20 : decode cX7_close 20 = .ok (.aload_n 0, 1) := by decide +kernel
theorem dX7_close_21 : decode cX7_close 21 = .ok (.getfield 44, 3) := by decide +kernel
theorem dX7_close_24 : decode cX7_close 24 = .ok (.invokevirtual 176, 3) := by decide +kernel
theorem dX7_close_27 : decode cX7_close 27 = .ok (.ireturn, 1) := by decide +kernel
theorem dX7_step_0 : decode cX7_step 0 = .ok (.iload_n 1, 1) := by decide +kernel
theorem dX7_step_1 : decode cX7_step 1 = .ok (.ifCond .lt 9, 3) := by decide +kernel
theorem dX7_step_4 : decode cX7_step 4 = .ok (.iload_n 1, 1) := by decide +kernel
theorem dX7_step_5 : decode cX7_step 5 = .ok (.bipush 13, 2) := by decide +kernel
theorem dX7_step_7 : decode cX7_step 7 = .ok (.if_icmp .le 13, 3) := by decide +kernel
theorem dX7_step_10 : decode cX7_step 10 = .ok (.new 72, 3) := by decide +kernel
theorem dX7_step_13 : decode cX7_step 13 = .ok (.dup, 1) := by decide +kernel
theorem dX7_step_14 : decode cX7_step 14 = .ok (.ldc 179, 2) := by decide +kernel
theorem dX7_step_16 : decode cX7_step 16 = .ok (.invokespecial 76, 3) := by decide +kernel
theorem dX7_step_19 : decode cX7_step 19 = .ok (.athrow, 1) := by decide +kernel
theorem dX7_step_20 : decode cX7_step 20 = .ok (.aload_n 0, 1) := by decide +kernel
theorem dX7_step_21 : decode cX7_step 21 = .ok (.getfield 10, 3) := by decide +kernel
theorem dX7_step_24 : decode cX7_step 24 = .ok (.iload_n 2, 1) := by decide +kernel
theorem dX7_step_25 : decode cX7_step 25 = .ok (.invokevirtual 105, 3) := by decide +kernel
theorem dX7_step_28 : decode cX7_step 28 = .ok (.ifCond .ne 13, 3) := by decide +kernel
theorem dX7_step_31 : decode cX7_step 31 = .ok (.new 94, 3) := by decide +kernel
theorem dX7_step_34 : decode cX7_step 34 = .ok (.dup, 1) := by decide +kernel
theorem dX7_step_35 : decode cX7_step 35 = .ok (.ldc 129, 2) := by decide +kernel
theorem dX7_step_37 : decode cX7_step 37 = .ok (.invokespecial 98, 3) := by decide +kernel
theorem dX7_step_40 : decode cX7_step 40 = .ok (.athrow, 1) := by decide +kernel
theorem dX7_step_41 : decode cX7_step 41 = .ok (.aload_n 0, 1) := by decide +kernel
theorem dX7_step_42 : decode cX7_step 42 = .ok (.getfield 44, 3) := by decide +kernel
theorem dX7_step_45 : decode cX7_step 45 = .ok (.invokevirtual 151, 3) := by decide +kernel
theorem dX7_step_48 : decode cX7_step 48 = .ok (.bipush 60, 2) := by decide +kernel
theorem dX7_step_50 : decode cX7_step 50 = .ok (.if_icmp .lt 13, 3) := by decide +kernel
theorem dX7_step_53 : decode cX7_step 53 = .ok (.new 61, 3) := by decide +kernel
theorem dX7_step_56 : decode cX7_step 56 = .ok (.dup, 1) := by decide +kernel
theorem dX7_step_57 : decode cX7_step 57 = .ok (.ldc 181, 2) := by decide +kernel
theorem dX7_step_59 : decode cX7_step 59 = .ok (.invokespecial 65, 3) := by decide +kernel
theorem dX7_step_62 : decode cX7_step 62 = .ok (.athrow, 1) := by decide +kernel
theorem dX7_step_63 : decode cX7_step 63 = .ok (.aload_n 0, 1) := by decide +kernel
theorem dX7_step_64 : decode cX7_step 64 = .ok (.getfield 53, 3) := by decide +kernel
theorem dX7_step_67 : decode cX7_step 67 = .ok (.iload_n 1, 1) := by decide +kernel
theorem dX7_step_68 : decode cX7_step 68 = .ok (.iload_n 2, 1) := by decide +kernel
theorem dX7_step_69 : decode cX7_step 69 = .ok (.iload_n 3, 1) := by decide +kernel
theorem dX7_step_70 : decode cX7_step 70 = .ok (.iload 4, 2) := by decide +kernel
theorem dX7_step_72 : decode cX7_step 72 = .ok (.iload 5, 2) := by decide +kernel
theorem dX7_step_74 : decode cX7_step 74 = .ok (.invokevirtual 183, 3) := by decide +kernel
theorem dX7_step_77 : decode cX7_step 77 = .ok (.istore 6, 2) := by decide +kernel
theorem dX7_step_79 : decode cX7_step 79 = .ok (.iload 6, 2) := by decide +kernel
theorem dX7_step_81 : decode cX7_step 81 = .ok (.ifCond .ne 32, 3) := by decide +kernel
theorem dX7_step_84 : decode cX7_step 84 = .ok (.aload_n 0, 1) := by decide +kernel
theorem dX7_step_85 : decode cX7_step 85 = .ok (.getfield 44, 3) := by decide +kernel
theorem dX7_step_88 : decode cX7_step 88 = .ok (.iload_n 2, 1) := by decide +kernel
theorem dX7_step_89 : decode cX7_step 89 = .ok (.iload_n 1, 1) := by decide +kernel
theorem dX7_step_90 : decode cX7_step 90 = .ok (.iload_n 3, 1) := by decide +kernel
theorem dX7_step_91 : decode cX7_step 91 = .ok (.iload 4, 2) := by decide +kernel
theorem dX7_step_93 : decode cX7_step 93 = .ok (.iload 5, 2) := by decide +kernel
theorem dX7_step_95 : decode cX7_step 95 = .ok (.invokevirtual 162, 3) := by decide +kernel
theorem dX7_step_98 : decode cX7_step 98 = .ok (.pop, 1) := by decide +kernel
theorem dX7_step_99 : decode cX7_step 99 = .ok (.iload_n 1, 1) := by decide +kernel
theorem dX7_step_100 : decode cX7_step 100 = .ok (.bipush 13, 2) := by decide +kernel
theorem dX7_step_102 : decode cX7_step 102 = .ok (.if_icmp .ne 11, 3) := by decide +kernel
theorem dX7_step_105 : decode cX7_step 105 = .ok (.aload_n 0, 1) := by decide +kernel
theorem dX7_step_106 : decode cX7_step 106 = .ok (.getfield 35, 3) := by decide +kernel
theorem dX7_step_109 : decode cX7_step 109 = .ok (.iload_n 3, 1) := by decide +kernel
theorem dX7_step_110 : decode cX7_step 110 = .ok (.invokevirtual 186, 3) := by decide +kernel
theorem dX7_step_113 : decode cX7_step 113 = .ok (.iload 6, 2) := by decide +kernel
theorem dX7_step_115 : decode cX7_step 115 = .ok (.ireturn, 1) := by decide +kernel
theorem dX7_undo_0 : decode cX7_undo 0 = .ok (.aload_n 0, 1) := by decide +kernel
theorem dX7_undo_1 : decode cX7_undo 1 = .ok (.getfield 44, 3) := by decide +kernel
theorem dX7_undo_4 : decode cX7_undo 4 = .ok (.invokevirtual 189, 3) := by decide +kernel
theorem dX7_undo_7 : decode cX7_undo 7 = .ok (.ifCond .ne 13, 3) := by decide +kernel
theorem dX7_undo_10 : decode cX7_undo 10 = .ok (.new 61, 3) := by decide +kernel
theorem dX7_undo_13 : decode cX7_undo 13 = .ok (.dup, 1) := by decide +kernel
theorem dX7_undo_14 : decode cX7_undo 14 = .ok (.ldc 193, 2) := by decide +kernel
theorem dX7_undo_16 : decode cX7_undo 16 = .ok (.invokespecial 65, 3) := by decide +kernel
theorem dX7_undo_19 : decode cX7_undo 19 = .ok (.athrow, 1) := by decide +kernel
theorem dX7_undo_20 : decode cX7_undo 20 = .ok (.aload_n 0, 1) := by decide +kernel
theorem dX7_undo_21 : decode cX7_undo 21 = .ok (.getfield 44, 3) := by decide +kernel
theorem dX7_undo_24 : decode cX7_undo 24 = .ok (.invokevirtual 195, 3) := by decide +kernel
theorem dX7_undo_27 : decode cX7_undo 27 = .ok (.aload_n 0, 1) := by decide +kernel
theorem dX7_undo_28 : decode cX7_undo 28 = .ok (.getfield 44, 3) := by decide +kernel
theorem dX7_undo_31 : decode cX7_undo 31 = .ok (.invokevirtual 151, 3) := by decide +kernel
theorem dX7_undo_34 : decode cX7_undo 34 = .ok (.ireturn, 1) := by decide +kernel
theorem dX7_count_0 : decode cX7_count 0 = .ok (.iload_n 1, 1) := by decide +kernel
theorem dX7_count_1 : decode cX7_count 1 = .ok (.tableswitch 123 0 8 #[51, 59, 67, 75, 83, 91, 99, 107, 115], 51) := by decide +kernel
theorem dX7_count_52 : decode cX7_count 52 = .ok (.aload_n 0, 1) := by decide +kernel
theorem dX7_count_53 : decode cX7_count 53 = .ok (.getfield 10, 3) := by decide +kernel
theorem dX7_count_56 : decode cX7_count 56 = .ok (.invokevirtual 198, 3) := by decide +kernel
theorem dX7_count_59 : decode cX7_count 59 = .ok (.ireturn, 1) := by decide +kernel
theorem dX7_count_60 : decode cX7_count 60 = .ok (.aload_n 0, 1) := by decide +kernel
theorem dX7_count_61 : decode cX7_count 61 = .ok (.getfield 21, 3) := by decide +kernel
theorem dX7_count_64 : decode cX7_count 64 = .ok (.invokevirtual 57, 3) := by decide +kernel
theorem dX7_count_67 : decode cX7_count 67 = .ok (.ireturn, 1) := by decide +kernel
theorem dX7_count_68 : decode cX7_count 68 = .ok (.aload_n 0, 1) := by decide +kernel
theorem dX7_count_69 : decode cX7_count 69 = .ok (.getfield 28, 3) := by decide +kernel
theorem dX7_count_72 : decode cX7_count 72 = .ok (.invokevirtual 145, 3) := by decide +kernel
theorem dX7_count_75 : decode cX7_count 75 = .ok (.ireturn, 1) := by decide +kernel
theorem dX7_count_76 : decode cX7_count 76 = .ok (.aload_n 0, 1) := by decide +kernel
theorem dX7_count_77 : decode cX7_count 77 = .ok (.getfield 44, 3) := by decide +kernel
theorem dX7_count_80 : decode cX7_count 80 = .ok (.invokevirtual 151, 3) := by decide +kernel
theorem dX7_count_83 : decode cX7_count 83 = .ok (.ireturn, 1) := by decide +kernel
theorem dX7_count_84 : decode cX7_count 84 = .ok (.aload_n 0, 1) := by decide +kernel
theorem dX7_count_85 : decode cX7_count 85 = .ok (.getfield 44, 3) := by decide +kernel
theorem dX7_count_88 : decode cX7_count 88 = .ok (.invokevirtual 201, 3) := by decide +kernel
theorem dX7_count_91 : decode cX7_count 91 = .ok (.ireturn, 1) := by decide +kernel
theorem dX7_count_92 : decode cX7_count 92 = .ok (.aload_n 0, 1) := by decide +kernel
theorem dX7_count_93 : decode cX7_count 93 = .ok (.getfield 44, 3) := by decide +kernel
theorem dX7_count_96 : decode cX7_count 96 = .ok (.invokevirtual 166, 3) := by decide +kernel
theorem dX7_count_99 : decode cX7_count 99 = .ok (.ireturn, 1) := by decide +kernel
theorem dX7_count_100 : decode cX7_count 100 = .ok (.aload_n 0, 1) := by decide +kernel
theorem dX7_count_101 : decode cX7_count 101 = .ok (.getfield 44, 3) := by decide +kernel
theorem dX7_count_104 : decode cX7_count 104 = .ok (.invokevirtual 157, 3) := by decide +kernel
theorem dX7_count_107 : decode cX7_count 107 = .ok (.ireturn, 1) := by decide +kernel
theorem dX7_count_108 : decode cX7_count 108 = .ok (.aload_n 0, 1) := by decide +kernel
theorem dX7_count_109 : decode cX7_count 109 = .ok (.getfield 35, 3) := by decide +kernel
theorem dX7_count_112 : decode cX7_count 112 = .ok (.invokevirtual 204, 3) := by decide +kernel
theorem dX7_count_115 : decode cX7_count 115 = .ok (.ireturn, 1) := by decide +kernel
theorem dX7_count_116 : decode cX7_count 116 = .ok (.aload_n 0, 1) := by decide +kernel
theorem dX7_count_117 : decode cX7_count 117 = .ok (.getfield 44, 3) := by decide +kernel
theorem dX7_count_120 : decode cX7_count 120 = .ok (.invokevirtual 205, 3) := by decide +kernel
theorem dX7_count_123 : decode cX7_count 123 = .ok (.ireturn, 1) := by decide +kernel
theorem dX7_count_124 : decode cX7_count 124 = .ok (.new 94, 3) := by decide +kernel
theorem dX7_count_127 : decode cX7_count 127 = .ok (.dup, 1) := by decide +kernel
theorem dX7_count_128 : decode cX7_count 128 = .ok (.ldc 208, 2) := by decide +kernel
theorem dX7_count_130 : decode cX7_count 130 = .ok (.invokespecial 98, 3) := by decide +kernel
theorem dX7_count_133 : decode cX7_count 133 = .ok (.athrow, 1) := by decide +kernel
theorem dX7_line_0 : decode cX7_line 0 = .ok (.iload_n 1, 1) := by decide +kernel
theorem dX7_line_1 : decode cX7_line 1 = .ok (.ifCond .lt 24, 3) := by decide +kernel
theorem dX7_line_4 : decode cX7_line 4 = .ok (.iload_n 1, 1) := by decide +kernel
theorem dX7_line_5 : decode cX7_line 5 = .ok (.aload_n 0, 1) := by decide +kernel
theorem dX7_line_6 : decode cX7_line 6 = .ok (.getfield 44, 3) := by decide +kernel
theorem dX7_line_9 : decode cX7_line 9 = .ok (.invokevirtual 151, 3) := by decide +kernel
theorem dX7_line_12 : decode cX7_line 12 = .ok (.if_icmp .ge 13, 3) := by decide +kernel
theorem dX7_line_15 : decode cX7_line 15 = .ok (.iload_n 2, 1) := by decide +kernel
theorem dX7_line_16 : decode cX7_line 16 = .ok (.ifCond .lt 9, 3) := by decide +kernel
theorem dX7_line_19 : decode cX7_line 19 = .ok (.iload_n 2, 1) := by decide +kernel
theorem dX7_line_20 : decode cX7_line 20 = .ok (.bipush 7, 2) := by decide +kernel
theorem dX7_line_22 : decode cX7_line 22 = .ok (.if_icmp .le 13, 3) := by decide +kernel
theorem dX7_line_25 : decode cX7_line 25 = .ok (.new 94, 3) := by decide +kernel
theorem dX7_line_28 : decode cX7_line 28 = .ok (.dup, 1) := by decide +kernel
theorem dX7_line_29 : decode cX7_line 29 = .ok (.ldc 210, 2) := by decide +kernel
theorem dX7_line_31 : decode cX7_line 31 = .ok (.invokespecial 98, 3) := by decide +kernel
theorem dX7_line_34 : decode cX7_line 34 = .ok (.athrow, 1) := by decide +kernel
theorem dX7_line_35 : decode cX7_line 35 = .ok (.iload_n 2, 1) := by decide +kernel
theorem dX7_line_36 : decode cX7_line 36 = .ok (.tableswitch 109 0 7 #[48, 57, 109, 109, 109, 66, 75, 92], 48) := by decide +kernel
theorem dX7_line_84 : decode cX7_line 84 = .ok (.aload_n 0, 1) := by decide +kernel
theorem dX7_line_85 : decode cX7_line 85 = .ok (.getfield 44, 3) := by decide +kernel
theorem dX7_line_88 : decode cX7_line 88 = .ok (.iload_n 1, 1) := by decide +kernel
theorem dX7_line_89 : decode cX7_line 89 = .ok (.invokevirtual 212, 3) := by decide +kernel
theorem dX7_line_92 : decode cX7_line 92 = .ok (.ireturn, 1) := by decide +kernel
theorem dX7_line_93 : decode cX7_line 93 = .ok (.aload_n 0, 1) := by decide +kernel
theorem dX7_line_94 : decode cX7_line 94 = .ok (.getfield 44, 3) := by decide +kernel
theorem dX7_line_97 : decode cX7_line 97 = .ok (.iload_n 1, 1) := by decide +kernel
theorem dX7_line_98 : decode cX7_line 98 = .ok (.invokevirtual 215, 3) := by decide +kernel
theorem dX7_line_101 : decode cX7_line 101 = .ok (.ireturn, 1) := by decide +kernel
theorem dX7_line_102 : decode cX7_line 102 = .ok (.aload_n 0, 1) := by decide +kernel
theorem dX7_line_103 : decode cX7_line 103 = .ok (.getfield 44, 3) := by decide +kernel
theorem dX7_line_106 : decode cX7_line 106 = .ok (.iload_n 1, 1) := by decide +kernel
theorem dX7_line_107 : decode cX7_line 107 = .ok (.invokevirtual 218, 3) := by decide +kernel
theorem dX7_line_110 : decode cX7_line 110 = .ok (.ireturn, 1) := by decide +kernel
theorem dX7_line_111 : decode cX7_line 111 = .ok (.aload_n 0, 1) := by decide +kernel
theorem dX7_line_112 : decode cX7_line 112 = .ok (.getfield 44, 3) := by decide +kernel
theorem dX7_line_115 : decode cX7_line 115 = .ok (.iload_n 1, 1) := by decide +kernel
theorem dX7_line_116 : decode cX7_line 116 = .ok (.invokevirtual 221, 3) := by decide +kernel
theorem dX7_line_119 : decode cX7_line 119 = .ok (.ifCond .eq 7, 3) := by decide +kernel
theorem dX7_line_122 : decode cX7_line 122 = .ok (.iconst 1, 1) := by decide +kernel
theorem dX7_line_123 : decode cX7_line 123 = .ok (.goto 4, 3) := by decide +kernel
theorem dX7_line_126 : decode cX7_line 126 = .ok (.iconst 0, 1) := by decide +kernel
theorem dX7_line_127 : decode cX7_line 127 = .ok (.ireturn, 1) := by decide +kernel
theorem dX7_line_128 : decode cX7_line 128 = .ok (.aload_n 0, 1) := by decide +kernel
theorem dX7_line_129 : decode cX7_line 129 = .ok (.getfield 44, 3) := by decide +kernel
theorem dX7_line_132 : decode cX7_line 132 = .ok (.iload_n 1, 1) := by decide +kernel
theorem dX7_line_133 : decode cX7_line 133 = .ok (.invokevirtual 224, 3) := by decide +kernel
theorem dX7_line_136 : decode cX7_line 136 = .ok (.ifCond .eq 7, 3) := by decide +kernel
theorem dX7_line_139 : decode cX7_line 139 = .ok (.iconst 1, 1) := by decide +kernel
theorem dX7_line_140 : decode cX7_line 140 = .ok (.goto 4, 3) := by decide +kernel
theorem dX7_line_143 : decode cX7_line 143 = .ok (.iconst 0, 1) := by decide +kernel
theorem dX7_line_144 : decode cX7_line 144 = .ok (.ireturn, 1) := by decide +kernel
theorem dX7_line_145 : decode cX7_line 145 = .ok (.aload_n 0, 1) := by decide +kernel
theorem dX7_line_146 : decode cX7_line 146 = .ok (.getfield 44, 3) := by decide +kernel
theorem dX7_line_149 : decode cX7_line 149 = .ok (.iload_n 1, 1) := by decide +kernel
theorem dX7_line_150 : decode cX7_line 150 = .ok (.iload_n 2, 1) := by decide +kernel
theorem dX7_line_151 : decode cX7_line 151 = .ok (.iconst 2, 1) := by decide +kernel
theorem dX7_line_152 : decode cX7_line 152 = .ok (.isub, 1) := by decide +kernel
theorem dX7_line_153 : decode cX7_line 153 = .ok (.invokevirtual 227, 3) := by decide +kernel
theorem dX7_line_156 : decode cX7_line 156 = .ok (.ireturn, 1) := by decide +kernel
theorem dX7_box_0 : decode cX7_box 0 = .ok (.iload_n 1, 1) := by decide +kernel
theorem dX7_box_1 : decode cX7_box 1 = .ok (.ifCond .lt 23, 3) := by decide +kernel
theorem dX7_box_4 : decode cX7_box 4 = .ok (.iload_n 1, 1) := by decide +kernel
theorem dX7_box_5 : decode cX7_box 5 = .ok (.aload_n 0, 1) := by decide +kernel
theorem dX7_box_6 : decode cX7_box 6 = .ok (.getfield 44, 3) := by decide +kernel
theorem dX7_box_9 : decode cX7_box 9 = .ok (.invokevirtual 201, 3) := by decide +kernel
theorem dX7_box_12 : decode cX7_box 12 = .ok (.if_icmp .ge 12, 3) := by decide +kernel
theorem dX7_box_15 : decode cX7_box 15 = .ok (.iload_n 2, 1) := by decide +kernel
theorem dX7_box_16 : decode cX7_box 16 = .ok (.ifCond .lt 8, 3) := by decide +kernel
theorem dX7_box_19 : decode cX7_box 19 = .ok (.iload_n 2, 1) := by decide +kernel
theorem dX7_box_20 : decode cX7_box 20 = .ok (.iconst 3, 1) := by decide +kernel
theorem dX7_box_21 : decode cX7_box 21 = .ok (.if_icmp .le 13, 3) := by decide +kernel
theorem dX7_box_24 : decode cX7_box 24 = .ok (.new 94, 3) := by decide +kernel
theorem dX7_box_27 : decode cX7_box 27 = .ok (.dup, 1) := by decide +kernel
theorem dX7_box_28 : decode cX7_box 28 = .ok (.ldc 231, 2) := by decide +kernel
theorem dX7_box_30 : decode cX7_box 30 = .ok (.invokespecial 98, 3) := by decide +kernel
theorem dX7_box_33 : decode cX7_box 33 = .ok (.athrow, 1) := by decide +kernel
theorem dX7_box_34 : decode cX7_box 34 = .ok (.iload_n 2, 1) := by decide +kernel
theorem dX7_box_35 : decode cX7_box 35 = .ok (.tableswitch 52 0 2 #[25, 34, 43], 25) := by decide +kernel
theorem dX7_box_60 : decode cX7_box 60 = .ok (.aload_n 0, 1) := by decide +kernel
theorem dX7_box_61 : decode cX7_box 61 = .ok (.getfield 44, 3) := by decide +kernel
theorem dX7_box_64 : decode cX7_box 64 = .ok (.iload_n 1, 1) := by decide +kernel
theorem dX7_box_65 : decode cX7_box 65 = .ok (.invokevirtual 233, 3) := by decide +kernel
theorem dX7_box_68 : decode cX7_box 68 = .ok (.ireturn, 1) := by decide +kernel
theorem dX7_box_69 : decode cX7_box 69 = .ok (.aload_n 0, 1) := by decide +kernel
theorem dX7_box_70 : decode cX7_box 70 = .ok (.getfield 44, 3) := by decide +kernel
theorem dX7_box_73 : decode cX7_box 73 = .ok (.iload_n 1, 1) := by decide +kernel
theorem dX7_box_74 : decode cX7_box 74 = .ok (.invokevirtual 236, 3) := by decide +kernel
theorem dX7_box_77 : decode cX7_box 77 = .ok (.ireturn, 1) := by decide +kernel
theorem dX7_box_78 : decode cX7_box 78 = .ok (.aload_n 0, 1) := by decide +kernel
theorem dX7_box_79 : decode cX7_box 79 = .ok (.getfield 44, 3) := by decide +kernel
theorem dX7_box_82 : decode cX7_box 82 = .ok (.iload_n 1, 1) := by decide +kernel
theorem dX7_box_83 : decode cX7_box 83 = .ok (.invokevirtual 239, 3) := by decide +kernel
theorem dX7_box_86 : decode cX7_box 86 = .ok (.ireturn, 1) := by decide +kernel
theorem dX7_box_87 : decode cX7_box 87 = .ok (.aload_n 0, 1) := by decide +kernel
theorem dX7_box_88 : decode cX7_box 88 = .ok (.getfield 44, 3) := by decide +kernel
theorem dX7_box_91 : decode cX7_box 91 = .ok (.iload_n 1, 1) := by decide +kernel
theorem dX7_box_92 : decode cX7_box 92 = .ok (.invokevirtual 242, 3) := by decide +kernel
theorem dX7_box_95 : decode cX7_box 95 = .ok (.ifCond .eq 7, 3) := by decide +kernel
theorem dX7_box_98 : decode cX7_box 98 = .ok (.iconst 1, 1) := by decide +kernel
theorem dX7_box_99 : decode cX7_box 99 = .ok (.goto 4, 3) := by decide +kernel
theorem dX7_box_102 : decode cX7_box 102 = .ok (.iconst 0, 1) := by decide +kernel
theorem dX7_box_103 : decode cX7_box 103 = .ok (.ireturn, 1) := by decide +kernel
theorem dX7_fails_0 : decode cX7_fails 0 = .ok (.iload_n 1, 1) := by decide +kernel
theorem dX7_fails_1 : decode cX7_fails 1 = .ok (.ifCond .lt 14, 3) := by decide +kernel
theorem dX7_fails_4 : decode cX7_fails 4 = .ok (.iload_n 1, 1) := by decide +kernel
theorem dX7_fails_5 : decode cX7_fails 5 = .ok (.aload_n 0, 1) := by decide +kernel
theorem dX7_fails_6 : decode cX7_fails 6 = .ok (.getfield 44, 3) := by decide +kernel
theorem dX7_fails_9 : decode cX7_fails 9 = .ok (.invokevirtual 151, 3) := by decide +kernel
theorem dX7_fails_12 : decode cX7_fails 12 = .ok (.if_icmp .lt 13, 3) := by decide +kernel
theorem dX7_fails_15 : decode cX7_fails 15 = .ok (.new 94, 3) := by decide +kernel
theorem dX7_fails_18 : decode cX7_fails 18 = .ok (.dup, 1) := by decide +kernel
theorem dX7_fails_19 : decode cX7_fails 19 = .ok (.ldc 245, 2) := by decide +kernel
theorem dX7_fails_21 : decode cX7_fails 21 = .ok (.invokespecial 98, 3) := by decide +kernel
theorem dX7_fails_24 : decode cX7_fails 24 = .ok (.athrow, 1) := by decide +kernel
theorem dX7_fails_25 : decode cX7_fails 25 = .ok (.aload_n 0, 1) := by decide +kernel
theorem dX7_fails_26 : decode cX7_fails 26 = .ok (.getfield 44, 3) := by decide +kernel
theorem dX7_fails_29 : decode cX7_fails 29 = .ok (.iload_n 1, 1) := by decide +kernel
theorem dX7_fails_30 : decode cX7_fails 30 = .ok (.invokevirtual 247, 3) := by decide +kernel
theorem dX7_fails_33 : decode cX7_fails 33 = .ok (.ireturn, 1) := by decide +kernel
theorem dX7_hint_0 : decode cX7_hint 0 = .ok (.aload_n 0, 1) := by decide +kernel
theorem dX7_hint_1 : decode cX7_hint 1 = .ok (.getfield 10, 3) := by decide +kernel
theorem dX7_hint_4 : decode cX7_hint 4 = .ok (.iload_n 1, 1) := by decide +kernel
theorem dX7_hint_5 : decode cX7_hint 5 = .ok (.invokevirtual 105, 3) := by decide +kernel
theorem dX7_hint_8 : decode cX7_hint 8 = .ok (.ifCond .eq 12, 3) := by decide +kernel
theorem dX7_hint_11 : decode cX7_hint 11 = .ok (.iload_n 2, 1) := by decide +kernel
theorem dX7_hint_12 : decode cX7_hint 12 = .ok (.ifCond .lt 8, 3) := by decide +kernel
theorem dX7_hint_15 : decode cX7_hint 15 = .ok (.iload_n 2, 1) := by decide +kernel
theorem dX7_hint_16 : decode cX7_hint 16 = .ok (.iconst 3, 1) := by decide +kernel
theorem dX7_hint_17 : decode cX7_hint 17 = .ok (.if_icmp .le 13, 3) := by decide +kernel
theorem dX7_hint_20 : decode cX7_hint 20 = .ok (.new 94, 3) := by decide +kernel
theorem dX7_hint_23 : decode cX7_hint 23 = .ok (.dup, 1) := by decide +kernel
theorem dX7_hint_24 : decode cX7_hint 24 = .ok (.ldc 109, 2) := by decide +kernel
theorem dX7_hint_26 : decode cX7_hint 26 = .ok (.invokespecial 98, 3) := by decide +kernel
theorem dX7_hint_29 : decode cX7_hint 29 = .ok (.athrow, 1) := by decide +kernel
theorem dX7_hint_30 : decode cX7_hint 30 = .ok (.iconst 0, 1) := by decide +kernel
theorem dX7_hint_31 : decode cX7_hint 31 = .ok (.istore_n 3, 1) := by decide +kernel
theorem dX7_hint_32 : decode cX7_hint 32 = .ok (.iload_n 3, 1) := by decide +kernel
theorem dX7_hint_33 : decode cX7_hint 33 = .ok (.bipush 13, 2) := by decide +kernel
theorem dX7_hint_35 : decode cX7_hint 35 = .ok (.if_icmp .ge 30, 3) := by decide +kernel
theorem dX7_hint_38 : decode cX7_hint 38 = .ok (.aload_n 0, 1) := by decide +kernel
theorem dX7_hint_39 : decode cX7_hint 39 = .ok (.getfield 53, 3) := by decide +kernel
theorem dX7_hint_42 : decode cX7_hint 42 = .ok (.iload_n 3, 1) := by decide +kernel
theorem dX7_hint_43 : decode cX7_hint 43 = .ok (.iload_n 1, 1) := by decide +kernel
theorem dX7_hint_44 : decode cX7_hint 44 = .ok (.invokevirtual 250, 3) := by decide +kernel
theorem dX7_hint_47 : decode cX7_hint 47 = .ok (.ifCond .eq 12, 3) := by decide +kernel
theorem dX7_hint_50 : decode cX7_hint 50 = .ok (.aload_n 0, 1) := by decide +kernel
theorem dX7_hint_51 : decode cX7_hint 51 = .ok (.getfield 53, 3) := by decide +kernel
theorem dX7_hint_54 : decode cX7_hint 54 = .ok (.iload_n 2, 1) := by decide +kernel
theorem dX7_hint_55 : decode cX7_hint 55 = .ok (.invokevirtual 254, 3) := by decide +kernel
theorem dX7_hint_58 : decode cX7_hint 58 = .ok (.ireturn, 1) := by decide +kernel
theorem dX7_hint_59 : decode cX7_hint 59 = .ok (.iinc 3 1, 3) := by decide +kernel
theorem dX7_hint_62 : decode cX7_hint 62 = .ok (.goto (-30), 3) := by decide +kernel
theorem dX7_hint_65 : decode cX7_hint 65 = .ok (.iconst (-1), 1) := by decide +kernel
theorem dX7_hint_66 : decode cX7_hint 66 = .ok (.ireturn, 1) := by decide +kernel
theorem dX7_end_0 : decode cX7_end 0 = .ok (.aload_n 0, 1) := by decide +kernel
theorem dX7_end_1 : decode cX7_end 1 = .ok (.getfield 44, 3) := by decide +kernel
theorem dX7_end_4 : decode cX7_end 4 = .ok (.invokevirtual 151, 3) := by decide +kernel
theorem dX7_end_7 : decode cX7_end 7 = .ok (.iconst 1, 1) := by decide +kernel
theorem dX7_end_8 : decode cX7_end 8 = .ok (.isub, 1) := by decide +kernel
theorem dX7_end_9 : decode cX7_end 9 = .ok (.istore_n 1, 1) := by decide +kernel
theorem dX7_end_10 : decode cX7_end 10 = .ok (.iload_n 1, 1) := by decide +kernel
theorem dX7_end_11 : decode cX7_end 11 = .ok (.ifCond .lt 24, 3) := by decide +kernel
theorem dX7_end_14 : decode cX7_end 14 = .ok (.aload_n 0, 1) := by decide +kernel
theorem dX7_end_15 : decode cX7_end 15 = .ok (.getfield 44, 3) := by decide +kernel
theorem dX7_end_18 : decode cX7_end 18 = .ok (.invokevirtual 166, 3) := by decide +kernel
theorem dX7_end_21 : decode cX7_end 21 = .ok (.ifCond .gt 14, 3) := by decide +kernel
theorem dX7_end_24 : decode cX7_end 24 = .ok (.aload_n 0, 1) := by decide +kernel
theorem dX7_end_25 : decode cX7_end 25 = .ok (.getfield 44, 3) := by decide +kernel
theorem dX7_end_28 : decode cX7_end 28 = .ok (.iload_n 1, 1) := by decide +kernel
theorem dX7_end_29 : decode cX7_end 29 = .ok (.invokevirtual 218, 3) := by decide +kernel
theorem dX7_end_32 : decode cX7_end 32 = .ok (.ifCond .lt 14, 3) := by decide +kernel
theorem dX7_end_35 : decode cX7_end 35 = .ok (.new 61, 3) := by decide +kernel
theorem dX7_end_38 : decode cX7_end 38 = .ok (.dup, 1) := by decide +kernel
theorem dX7_end_39 : decode cX7_end 39 = .ok (.ldc_w 257, 3) := by decide +kernel
theorem dX7_end_42 : decode cX7_end 42 = .ok (.invokespecial 65, 3) := by decide +kernel
theorem dX7_end_45 : decode cX7_end 45 = .ok (.athrow, 1) := by decide +kernel
theorem dX7_end_46 : decode cX7_end 46 = .ok (.aload_n 0, 1) := by decide +kernel
theorem dX7_end_47 : decode cX7_end 47 = .ok (.getfield 35, 3) := by decide +kernel
theorem dX7_end_50 : decode cX7_end 50 = .ok (.invokevirtual 204, 3) := by decide +kernel
theorem dX7_end_53 : decode cX7_end 53 = .ok (.bipush 16, 2) := by decide +kernel
theorem dX7_end_55 : decode cX7_end 55 = .ok (.if_icmp .lt 14, 3) := by decide +kernel
theorem dX7_end_58 : decode cX7_end 58 = .ok (.new 61, 3) := by decide +kernel
theorem dX7_end_61 : decode cX7_end 61 = .ok (.dup, 1) := by decide +kernel
theorem dX7_end_62 : decode cX7_end 62 = .ok (.ldc_w 259, 3) := by decide +kernel
theorem dX7_end_65 : decode cX7_end 65 = .ok (.invokespecial 65, 3) := by decide +kernel
theorem dX7_end_68 : decode cX7_end 68 = .ok (.athrow, 1) := by decide +kernel
theorem dX7_end_69 : decode cX7_end 69 = .ok (.aload_n 0, 1) := by decide +kernel
theorem dX7_end_70 : decode cX7_end 70 = .ok (.getfield 44, 3) := by decide +kernel
theorem dX7_end_73 : decode cX7_end 73 = .ok (.invokevirtual 157, 3) := by decide +kernel
theorem dX7_end_76 : decode cX7_end 76 = .ok (.istore_n 2, 1) := by decide +kernel
theorem dX7_end_77 : decode cX7_end 77 = .ok (.iload_n 2, 1) := by decide +kernel
theorem dX7_end_78 : decode cX7_end 78 = .ok (.ifCond .le 14, 3) := by decide +kernel
theorem dX7_end_81 : decode cX7_end 81 = .ok (.aload_n 0, 1) := by decide +kernel
theorem dX7_end_82 : decode cX7_end 82 = .ok (.getfield 44, 3) := by decide +kernel
theorem dX7_end_85 : decode cX7_end 85 = .ok (.iconst 0, 1) := by decide +kernel
theorem dX7_end_86 : decode cX7_end 86 = .ok (.invokevirtual 212, 3) := by decide +kernel
theorem dX7_end_89 : decode cX7_end 89 = .ok (.goto 4, 3) := by decide +kernel
theorem dX7_end_92 : decode cX7_end 92 = .ok (.iconst (-1), 1) := by decide +kernel
theorem dX7_end_93 : decode cX7_end 93 = .ok (.istore_n 3, 1) := by decide +kernel
theorem dX7_end_94 : decode cX7_end 94 = .ok (.iload_n 2, 1) := by decide +kernel
theorem dX7_end_95 : decode cX7_end 95 = .ok (.iconst 1, 1) := by decide +kernel
theorem dX7_end_96 : decode cX7_end 96 = .ok (.if_icmp .le 14, 3) := by decide +kernel
theorem dX7_end_99 : decode cX7_end 99 = .ok (.aload_n 0, 1) := by decide +kernel
theorem dX7_end_100 : decode cX7_end 100 = .ok (.getfield 44, 3) := by decide +kernel
theorem dX7_end_103 : decode cX7_end 103 = .ok (.iconst 1, 1) := by decide +kernel
theorem dX7_end_104 : decode cX7_end 104 = .ok (.invokevirtual 212, 3) := by decide +kernel
theorem dX7_end_107 : decode cX7_end 107 = .ok (.goto 4, 3) := by decide +kernel
theorem dX7_end_110 : decode cX7_end 110 = .ok (.iconst (-1), 1) := by decide +kernel
theorem dX7_end_111 : decode cX7_end 111 = .ok (.istore 4, 2) := by decide +kernel
theorem dX7_end_113 : decode cX7_end 113 = .ok (.aload_n 0, 1) := by decide +kernel
theorem dX7_end_114 : decode cX7_end 114 = .ok (.getfield 35, 3) := by decide +kernel
theorem dX7_end_117 : decode cX7_end 117 = .ok (.aload_n 0, 1) := by decide +kernel
theorem dX7_end_118 : decode cX7_end 118 = .ok (.getfield 44, 3) := by decide +kernel
theorem dX7_end_121 : decode cX7_end 121 = .ok (.iload_n 1, 1) := by decide +kernel
theorem dX7_end_122 : decode cX7_end 122 = .ok (.invokevirtual 212, 3) := by decide +kernel
theorem dX7_end_125 : decode cX7_end 125 = .ok (.iload_n 3, 1) := by decide +kernel
theorem dX7_end_126 : decode cX7_end 126 = .ok (.iload 4, 2) := by decide +kernel
theorem dX7_end_128 : decode cX7_end 128 = .ok (.iload_n 1, 1) := by decide +kernel
theorem dX7_end_129 : decode cX7_end 129 = .ok (.iconst 1, 1) := by decide +kernel
theorem dX7_end_130 : decode cX7_end 130 = .ok (.iadd, 1) := by decide +kernel
theorem dX7_end_131 : decode cX7_end 131 = .ok (.aload_n 0, 1) := by decide +kernel
theorem dX7_end_132 : decode cX7_end 132 = .ok (.getfield 44, 3) := by decide +kernel
theorem dX7_end_135 : decode cX7_end 135 = .ok (.invokevirtual 205, 3) := by decide +kernel
theorem dX7_end_138 : decode cX7_end 138 = .ok (.invokevirtual 261, 3) := by decide +kernel
theorem dX7_end_141 : decode cX7_end 141 = .ok (.istore 5, 2) := by decide +kernel
theorem dX7_end_143 : decode cX7_end 143 = .ok (.aload_n 0, 1) := by decide +kernel
theorem dX7_end_144 : decode cX7_end 144 = .ok (.getfield 44, 3) := by decide +kernel
theorem dX7_end_147 : decode cX7_end 147 = .ok (.invokevirtual 154, 3) := by decide +kernel
theorem dX7_end_150 : decode cX7_end 150 = .ok (.iload 5, 2) := by decide +kernel
theorem dX7_end_152 : decode cX7_end 152 = .ok (.ireturn, 1) := by decide +kernel
theorem dX7_theorem_0 : decode cX7_theorem 0 = .ok (.aload_n 0, 1) := by decide +kernel
theorem dX7_theorem_1 : decode cX7_theorem 1 = .ok (.getfield 35, 3) := by decide +kernel
theorem dX7_theorem_4 : decode cX7_theorem 4 = .ok (.iload_n 1, 1) := by decide +kernel
theorem dX7_theorem_5 : decode cX7_theorem 5 = .ok (.invokevirtual 262, 3) := by decide +kernel
theorem dX7_theorem_8 : decode cX7_theorem 8 = .ok (.ifCond .eq 13, 3) := by decide +kernel
theorem dX7_theorem_11 : decode cX7_theorem 11 = .ok (.iload_n 2, 1) := by decide +kernel
theorem dX7_theorem_12 : decode cX7_theorem 12 = .ok (.ifCond .lt 9, 3) := by decide +kernel
theorem dX7_theorem_15 : decode cX7_theorem 15 = .ok (.iload_n 2, 1) := by decide +kernel
theorem dX7_theorem_16 : decode cX7_theorem 16 = .ok (.bipush 6, 2) := by decide +kernel
theorem dX7_theorem_18 : decode cX7_theorem 18 = .ok (.if_icmp .le 14, 3) := by decide +kernel
theorem dX7_theorem_21 : decode cX7_theorem 21 = .ok (.new 94, 3) := by decide +kernel
theorem dX7_theorem_24 : decode cX7_theorem 24 = .ok (.dup, 1) := by decide +kernel
theorem dX7_theorem_25 : decode cX7_theorem 25 = .ok (.ldc_w 263, 3) := by decide +kernel
theorem dX7_theorem_28 : decode cX7_theorem 28 = .ok (.invokespecial 98, 3) := by decide +kernel
theorem dX7_theorem_31 : decode cX7_theorem 31 = .ok (.athrow, 1) := by decide +kernel
theorem dX7_theorem_32 : decode cX7_theorem 32 = .ok (.iload_n 2, 1) := by decide +kernel
theorem dX7_theorem_33 : decode cX7_theorem 33 = .ok (.tableswitch 93 0 5 #[39, 48, 57, 66, 75, 84], 39) := by decide +kernel
theorem dX7_theorem_72 : decode cX7_theorem 72 = .ok (.aload_n 0, 1) := by decide +kernel
theorem dX7_theorem_73 : decode cX7_theorem 73 = .ok (.getfield 35, 3) := by decide +kernel
theorem dX7_theorem_76 : decode cX7_theorem 76 = .ok (.iload_n 1, 1) := by decide +kernel
theorem dX7_theorem_77 : decode cX7_theorem 77 = .ok (.invokevirtual 265, 3) := by decide +kernel
theorem dX7_theorem_80 : decode cX7_theorem 80 = .ok (.ireturn, 1) := by decide +kernel
theorem dX7_theorem_81 : decode cX7_theorem 81 = .ok (.aload_n 0, 1) := by decide +kernel
theorem dX7_theorem_82 : decode cX7_theorem 82 = .ok (.getfield 35, 3) := by decide +kernel
theorem dX7_theorem_85 : decode cX7_theorem 85 = .ok (.iload_n 1, 1) := by decide +kernel
theorem dX7_theorem_86 : decode cX7_theorem 86 = .ok (.invokevirtual 268, 3) := by decide +kernel
theorem dX7_theorem_89 : decode cX7_theorem 89 = .ok (.ireturn, 1) := by decide +kernel
theorem dX7_theorem_90 : decode cX7_theorem 90 = .ok (.aload_n 0, 1) := by decide +kernel
theorem dX7_theorem_91 : decode cX7_theorem 91 = .ok (.getfield 35, 3) := by decide +kernel
theorem dX7_theorem_94 : decode cX7_theorem 94 = .ok (.iload_n 1, 1) := by decide +kernel
theorem dX7_theorem_95 : decode cX7_theorem 95 = .ok (.invokevirtual 271, 3) := by decide +kernel
theorem dX7_theorem_98 : decode cX7_theorem 98 = .ok (.ireturn, 1) := by decide +kernel
theorem dX7_theorem_99 : decode cX7_theorem 99 = .ok (.aload_n 0, 1) := by decide +kernel
theorem dX7_theorem_100 : decode cX7_theorem 100 = .ok (.getfield 35, 3) := by decide +kernel
theorem dX7_theorem_103 : decode cX7_theorem 103 = .ok (.iload_n 1, 1) := by decide +kernel
theorem dX7_theorem_104 : decode cX7_theorem 104 = .ok (.invokevirtual 274, 3) := by decide +kernel
theorem dX7_theorem_107 : decode cX7_theorem 107 = .ok (.ireturn, 1) := by decide +kernel
theorem dX7_theorem_108 : decode cX7_theorem 108 = .ok (.aload_n 0, 1) := by decide +kernel
theorem dX7_theorem_109 : decode cX7_theorem 109 = .ok (.getfield 35, 3) := by decide +kernel
theorem dX7_theorem_112 : decode cX7_theorem 112 = .ok (.iload_n 1, 1) := by decide +kernel
theorem dX7_theorem_113 : decode cX7_theorem 113 = .ok (.invokevirtual 277, 3) := by decide +kernel
theorem dX7_theorem_116 : decode cX7_theorem 116 = .ok (.ireturn, 1) := by decide +kernel
theorem dX7_theorem_117 : decode cX7_theorem 117 = .ok (.aload_n 0, 1) := by decide +kernel
theorem dX7_theorem_118 : decode cX7_theorem 118 = .ok (.getfield 35, 3) := by decide +kernel
theorem dX7_theorem_121 : decode cX7_theorem 121 = .ok (.iload_n 1, 1) := by decide +kernel
theorem dX7_theorem_122 : decode cX7_theorem 122 = .ok (.invokevirtual 280, 3) := by decide +kernel
theorem dX7_theorem_125 : decode cX7_theorem 125 = .ok (.ireturn, 1) := by decide +kernel
theorem dX7_theorem_126 : decode cX7_theorem 126 = .ok (.aload_n 0, 1) := by decide +kernel
theorem dX7_theorem_127 : decode cX7_theorem 127 = .ok (.getfield 35, 3) := by decide +kernel
theorem dX7_theorem_130 : decode cX7_theorem 130 = .ok (.iload_n 1, 1) := by decide +kernel
theorem dX7_theorem_131 : decode cX7_theorem 131 = .ok (.invokevirtual 283, 3) := by decide +kernel
theorem dX7_theorem_134 : decode cX7_theorem 134 = .ok (.ireturn, 1) := by decide +kernel
theorem dX7_instance_0 : decode cX7_instance 0 = .ok (.aload_n 0, 1) := by decide +kernel
theorem dX7_instance_1 : decode cX7_instance 1 = .ok (.getfield 35, 3) := by decide +kernel
theorem dX7_instance_4 : decode cX7_instance 4 = .ok (.iload_n 1, 1) := by decide +kernel
theorem dX7_instance_5 : decode cX7_instance 5 = .ok (.invokevirtual 262, 3) := by decide +kernel
theorem dX7_instance_8 : decode cX7_instance 8 = .ok (.ifCond .eq 24, 3) := by decide +kernel
theorem dX7_instance_11 : decode cX7_instance 11 = .ok (.aload_n 0, 1) := by decide +kernel
theorem dX7_instance_12 : decode cX7_instance 12 = .ok (.getfield 10, 3) := by decide +kernel
theorem dX7_instance_15 : decode cX7_instance 15 = .ok (.iload_n 2, 1) := by decide +kernel
theorem dX7_instance_16 : decode cX7_instance 16 = .ok (.invokevirtual 105, 3) := by decide +kernel
theorem dX7_instance_19 : decode cX7_instance 19 = .ok (.ifCond .eq 13, 3) := by decide +kernel
theorem dX7_instance_22 : decode cX7_instance 22 = .ok (.iload_n 3, 1) := by decide +kernel
theorem dX7_instance_23 : decode cX7_instance 23 = .ok (.ifCond .lt 9, 3) := by decide +kernel
theorem dX7_instance_26 : decode cX7_instance 26 = .ok (.iload_n 3, 1) := by decide +kernel
theorem dX7_instance_27 : decode cX7_instance 27 = .ok (.bipush 8, 2) := by decide +kernel
theorem dX7_instance_29 : decode cX7_instance 29 = .ok (.if_icmp .lt 14, 3) := by decide +kernel
theorem dX7_instance_32 : decode cX7_instance 32 = .ok (.new 94, 3) := by decide +kernel
theorem dX7_instance_35 : decode cX7_instance 35 = .ok (.dup, 1) := by decide +kernel
theorem dX7_instance_36 : decode cX7_instance 36 = .ok (.ldc_w 286, 3) := by decide +kernel
theorem dX7_instance_39 : decode cX7_instance 39 = .ok (.invokespecial 98, 3) := by decide +kernel
theorem dX7_instance_42 : decode cX7_instance 42 = .ok (.athrow, 1) := by decide +kernel
theorem dX7_instance_43 : decode cX7_instance 43 = .ok (.aload_n 0, 1) := by decide +kernel
theorem dX7_instance_44 : decode cX7_instance 44 = .ok (.getfield 35, 3) := by decide +kernel
theorem dX7_instance_47 : decode cX7_instance 47 = .ok (.iload_n 1, 1) := by decide +kernel
theorem dX7_instance_48 : decode cX7_instance 48 = .ok (.iload_n 2, 1) := by decide +kernel
theorem dX7_instance_49 : decode cX7_instance 49 = .ok (.invokevirtual 288, 3) := by decide +kernel
theorem dX7_instance_52 : decode cX7_instance 52 = .ok (.ifCond .eq 14, 3) := by decide +kernel
theorem dX7_instance_55 : decode cX7_instance 55 = .ok (.aload_n 0, 1) := by decide +kernel
theorem dX7_instance_56 : decode cX7_instance 56 = .ok (.getfield 35, 3) := by decide +kernel
theorem dX7_instance_59 : decode cX7_instance 59 = .ok (.iload_n 3, 1) := by decide +kernel
theorem dX7_instance_60 : decode cX7_instance 60 = .ok (.invokevirtual 291, 3) := by decide +kernel
theorem dX7_instance_63 : decode cX7_instance 63 = .ok (.goto 4, 3) := by decide +kernel
theorem dX7_instance_66 : decode cX7_instance 66 = .ok (.iconst (-1), 1) := by decide +kernel
theorem dX7_instance_67 : decode cX7_instance 67 = .ok (.ireturn, 1) := by decide +kernel
theorem dX7_thrift_0 : decode cX7_thrift 0 = .ok (.aload_n 0, 1) := by decide +kernel
theorem dX7_thrift_1 : decode cX7_thrift 1 = .ok (.getfield 35, 3) := by decide +kernel
theorem dX7_thrift_4 : decode cX7_thrift 4 = .ok (.invokevirtual 294, 3) := by decide +kernel
theorem dX7_thrift_7 : decode cX7_thrift 7 = .ok (.dreturn, 1) := by decide +kernel
theorem dX7_digest_0 : decode cX7_digest 0 = .ok (.ldc2_w 298, 3) := by decide +kernel
theorem dX7_digest_3 : decode cX7_digest 3 = .ok (.lstore_n 1, 1) := by decide +kernel
theorem dX7_digest_4 : decode cX7_digest 4 = .ok (.iconst 0, 1) := by decide +kernel
theorem dX7_digest_5 : decode cX7_digest 5 = .ok (.istore_n 3, 1) := by decide +kernel
theorem dX7_digest_6 : decode cX7_digest 6 = .ok (.iload_n 3, 1) := by decide +kernel
theorem dX7_digest_7 : decode cX7_digest 7 = .ok (.bipush 8, 2) := by decide +kernel
theorem dX7_digest_9 : decode cX7_digest 9 = .ok (.if_icmp .gt 22, 3) := by decide +kernel
theorem dX7_digest_12 : decode cX7_digest 12 = .ok (.lload_n 1, 1) := by decide +kernel
theorem dX7_digest_13 : decode cX7_digest 13 = .ok (.ldc2_w 300, 3) := by decide +kernel
theorem dX7_digest_16 : decode cX7_digest 16 = .ok (.lmul, 1) := by decide +kernel
theorem dX7_digest_17 : decode cX7_digest 17 = .ok (.aload_n 0, 1) := by decide +kernel
theorem dX7_digest_18 : decode cX7_digest 18 = .ok (.iload_n 3, 1) := by decide +kernel
theorem dX7_digest_19 : decode cX7_digest 19 = .ok (.invokevirtual 302, 3) := by decide +kernel
theorem dX7_digest_22 : decode cX7_digest 22 = .ok (.i2l, 1) := by decide +kernel
theorem dX7_digest_23 : decode cX7_digest 23 = .ok (.ladd, 1) := by decide +kernel
theorem dX7_digest_24 : decode cX7_digest 24 = .ok (.lstore_n 1, 1) := by decide +kernel
theorem dX7_digest_25 : decode cX7_digest 25 = .ok (.iinc 3 1, 3) := by decide +kernel
theorem dX7_digest_28 : decode cX7_digest 28 = .ok (.goto (-22), 3) := by decide +kernel
theorem dX7_digest_31 : decode cX7_digest 31 = .ok (.aload_n 0, 1) := by decide +kernel
theorem dX7_digest_32 : decode cX7_digest 32 = .ok (.lload_n 1, 1) := by decide +kernel
theorem dX7_digest_33 : decode cX7_digest 33 = .ok (.invokevirtual 305, 3) := by decide +kernel
theorem dX7_digest_36 : decode cX7_digest 36 = .ok (.lstore_n 1, 1) := by decide +kernel
theorem dX7_digest_37 : decode cX7_digest 37 = .ok (.aload_n 0, 1) := by decide +kernel
theorem dX7_digest_38 : decode cX7_digest 38 = .ok (.lload_n 1, 1) := by decide +kernel
theorem dX7_digest_39 : decode cX7_digest 39 = .ok (.invokevirtual 309, 3) := by decide +kernel
theorem dX7_digest_42 : decode cX7_digest 42 = .ok (.lstore_n 1, 1) := by decide +kernel
theorem dX7_digest_43 : decode cX7_digest 43 = .ok (.aload_n 0, 1) := by decide +kernel
theorem dX7_digest_44 : decode cX7_digest 44 = .ok (.lload_n 1, 1) := by decide +kernel
theorem dX7_digest_45 : decode cX7_digest 45 = .ok (.invokevirtual 312, 3) := by decide +kernel
theorem dX7_digest_48 : decode cX7_digest 48 = .ok (.lstore_n 1, 1) := by decide +kernel
theorem dX7_digest_49 : decode cX7_digest 49 = .ok (.iconst 0, 1) := by decide +kernel
theorem dX7_digest_50 : decode cX7_digest 50 = .ok (.istore_n 3, 1) := by decide +kernel
theorem dX7_digest_51 : decode cX7_digest 51 = .ok (.iload_n 3, 1) := by decide +kernel
theorem dX7_digest_52 : decode cX7_digest 52 = .ok (.aload_n 0, 1) := by decide +kernel
theorem dX7_digest_53 : decode cX7_digest 53 = .ok (.getfield 28, 3) := by decide +kernel
theorem dX7_digest_56 : decode cX7_digest 56 = .ok (.invokevirtual 145, 3) := by decide +kernel
theorem dX7_digest_59 : decode cX7_digest 59 = .ok (.if_icmp .ge 25, 3) := by decide +kernel
theorem dX7_digest_62 : decode cX7_digest 62 = .ok (.lload_n 1, 1) := by decide +kernel
theorem dX7_digest_63 : decode cX7_digest 63 = .ok (.ldc2_w 300, 3) := by decide +kernel
theorem dX7_digest_66 : decode cX7_digest 66 = .ok (.lmul, 1) := by decide +kernel
theorem dX7_digest_67 : decode cX7_digest 67 = .ok (.aload_n 0, 1) := by decide +kernel
theorem dX7_digest_68 : decode cX7_digest 68 = .ok (.getfield 28, 3) := by decide +kernel
theorem dX7_digest_71 : decode cX7_digest 71 = .ok (.iload_n 3, 1) := by decide +kernel
theorem dX7_digest_72 : decode cX7_digest 72 = .ok (.invokevirtual 148, 3) := by decide +kernel
theorem dX7_digest_75 : decode cX7_digest 75 = .ok (.i2l, 1) := by decide +kernel
theorem dX7_digest_76 : decode cX7_digest 76 = .ok (.ladd, 1) := by decide +kernel
theorem dX7_digest_77 : decode cX7_digest 77 = .ok (.lstore_n 1, 1) := by decide +kernel
theorem dX7_digest_78 : decode cX7_digest 78 = .ok (.iinc 3 1, 3) := by decide +kernel
theorem dX7_digest_81 : decode cX7_digest 81 = .ok (.goto (-30), 3) := by decide +kernel
theorem dX7_digest_84 : decode cX7_digest 84 = .ok (.lload_n 1, 1) := by decide +kernel
theorem dX7_digest_85 : decode cX7_digest 85 = .ok (.lreturn, 1) := by decide +kernel
theorem dX7_withFormulas_0 : decode cX7_withFormulas 0 = .ok (.lload_n 1, 1) := by decide +kernel
theorem dX7_withFormulas_1 : decode cX7_withFormulas 1 = .ok (.lstore_n 3, 1) := by decide +kernel
theorem dX7_withFormulas_2 : decode cX7_withFormulas 2 = .ok (.iconst 0, 1) := by decide +kernel
theorem dX7_withFormulas_3 : decode cX7_withFormulas 3 = .ok (.istore 5, 2) := by decide +kernel
theorem dX7_withFormulas_5 : decode cX7_withFormulas 5 = .ok (.iload 5, 2) := by decide +kernel
theorem dX7_withFormulas_7 : decode cX7_withFormulas 7 = .ok (.aload_n 0, 1) := by decide +kernel
theorem dX7_withFormulas_8 : decode cX7_withFormulas 8 = .ok (.getfield 10, 3) := by decide +kernel
theorem dX7_withFormulas_11 : decode cX7_withFormulas 11 = .ok (.invokevirtual 198, 3) := by decide +kernel
theorem dX7_withFormulas_14 : decode cX7_withFormulas 14 = .ok (.if_icmp .ge 60, 3) := by decide +kernel
theorem dX7_withFormulas_17 : decode cX7_withFormulas 17 = .ok (.lload_n 3, 1) := by decide +kernel
theorem dX7_withFormulas_18 : decode cX7_withFormulas 18 = .ok (.ldc2_w 300, 3) := by decide +kernel
theorem dX7_withFormulas_21 : decode cX7_withFormulas 21 = .ok (.lmul, 1) := by decide +kernel
theorem dX7_withFormulas_22 : decode cX7_withFormulas 22 = .ok (.aload_n 0, 1) := by decide +kernel
theorem dX7_withFormulas_23 : decode cX7_withFormulas 23 = .ok (.getfield 10, 3) := by decide +kernel
theorem dX7_withFormulas_26 : decode cX7_withFormulas 26 = .ok (.iload 5, 2) := by decide +kernel
theorem dX7_withFormulas_28 : decode cX7_withFormulas 28 = .ok (.invokevirtual 111, 3) := by decide +kernel
theorem dX7_withFormulas_31 : decode cX7_withFormulas 31 = .ok (.i2l, 1) := by decide +kernel
theorem dX7_withFormulas_32 : decode cX7_withFormulas 32 = .ok (.ladd, 1) := by decide +kernel
theorem dX7_withFormulas_33 : decode cX7_withFormulas 33 = .ok (.lstore_n 3, 1) := by decide +kernel
theorem dX7_withFormulas_34 : decode cX7_withFormulas 34 = .ok (.lload_n 3, 1) := by decide +kernel
theorem dX7_withFormulas_35 : decode cX7_withFormulas 35 = .ok (.ldc2_w 300, 3) := by decide +kernel
theorem dX7_withFormulas_38 : decode cX7_withFormulas 38 = .ok (.lmul, 1) := by decide +kernel
theorem dX7_withFormulas_39 : decode cX7_withFormulas 39 = .ok (.aload_n 0, 1) := by decide +kernel
theorem dX7_withFormulas_40 : decode cX7_withFormulas 40 = .ok (.getfield 10, 3) := by decide +kernel
theorem dX7_withFormulas_43 : decode cX7_withFormulas 43 = .ok (.iload 5, 2) := by decide +kernel
theorem dX7_withFormulas_45 : decode cX7_withFormulas 45 = .ok (.invokevirtual 115, 3) := by decide +kernel
theorem dX7_withFormulas_48 : decode cX7_withFormulas 48 = .ok (.i2l, 1) := by decide +kernel
theorem dX7_withFormulas_49 : decode cX7_withFormulas 49 = .ok (.ladd, 1) := by decide +kernel
theorem dX7_withFormulas_50 : decode cX7_withFormulas 50 = .ok (.lstore_n 3, 1) := by decide +kernel
theorem dX7_withFormulas_51 : decode cX7_withFormulas 51 = .ok (.lload_n 3, 1) := by decide +kernel
theorem dX7_withFormulas_52 : decode cX7_withFormulas 52 = .ok (.ldc2_w 300, 3) := by decide +kernel
theorem dX7_withFormulas_55 : decode cX7_withFormulas 55 = .ok (.lmul, 1) := by decide +kernel
theorem dX7_withFormulas_56 : decode cX7_withFormulas 56 = .ok (.aload_n 0, 1) := by decide +kernel
theorem dX7_withFormulas_57 : decode cX7_withFormulas 57 = .ok (.getfield 10, 3) := by decide +kernel
theorem dX7_withFormulas_60 : decode cX7_withFormulas 60 = .ok (.iload 5, 2) := by decide +kernel
theorem dX7_withFormulas_62 : decode cX7_withFormulas 62 = .ok (.invokevirtual 118, 3) := by decide +kernel
theorem dX7_withFormulas_65 : decode cX7_withFormulas 65 = .ok (.i2l, 1) := by decide +kernel
theorem dX7_withFormulas_66 : decode cX7_withFormulas 66 = .ok (.ladd, 1) := by decide +kernel
theorem dX7_withFormulas_67 : decode cX7_withFormulas 67 = .ok (.lstore_n 3, 1) := by decide +kernel
theorem dX7_withFormulas_68 : decode cX7_withFormulas 68 = .ok (.iinc 5 1, 3) := by decide +kernel
theorem dX7_withFormulas_71 : decode cX7_withFormulas 71 = .ok (.goto (-66), 3) := by decide +kernel
theorem dX7_withFormulas_74 : decode cX7_withFormulas 74 = .ok (.lload_n 3, 1) := by decide +kernel
theorem dX7_withFormulas_75 : decode cX7_withFormulas 75 = .ok (.lreturn, 1) := by decide +kernel
theorem dX7_withProof_0 : decode cX7_withProof 0 = .ok (.lload_n 1, 1) := by decide +kernel
theorem dX7_withProof_1 : decode cX7_withProof 1 = .ok (.lstore_n 3, 1) := by decide +kernel
theorem dX7_withProof_2 : decode cX7_withProof 2 = .ok (.iconst 0, 1) := by decide +kernel
theorem dX7_withProof_3 : decode cX7_withProof 3 = .ok (.istore 5, 2) := by decide +kernel
theorem dX7_withProof_5 : decode cX7_withProof 5 = .ok (.iload 5, 2) := by decide +kernel
theorem dX7_withProof_7 : decode cX7_withProof 7 = .ok (.aload_n 0, 1) := by decide +kernel
theorem dX7_withProof_8 : decode cX7_withProof 8 = .ok (.getfield 44, 3) := by decide +kernel
theorem dX7_withProof_11 : decode cX7_withProof 11 = .ok (.invokevirtual 151, 3) := by decide +kernel
theorem dX7_withProof_14 : decode cX7_withProof 14 = .ok (.if_icmp .ge 41, 3) := by decide +kernel
theorem dX7_withProof_17 : decode cX7_withProof 17 = .ok (.iconst 0, 1) := by decide +kernel
theorem dX7_withProof_18 : decode cX7_withProof 18 = .ok (.istore 6, 2) := by decide +kernel
theorem dX7_withProof_20 : decode cX7_withProof 20 = .ok (.iload 6, 2) := by decide +kernel
theorem dX7_withProof_22 : decode cX7_withProof 22 = .ok (.bipush 7, 2) := by decide +kernel
theorem dX7_withProof_24 : decode cX7_withProof 24 = .ok (.if_icmp .gt 25, 3) := by decide +kernel
theorem dX7_withProof_27 : decode cX7_withProof 27 = .ok (.lload_n 3, 1) := by decide +kernel
theorem dX7_withProof_28 : decode cX7_withProof 28 = .ok (.ldc2_w 300, 3) := by decide +kernel
theorem dX7_withProof_31 : decode cX7_withProof 31 = .ok (.lmul, 1) := by decide +kernel
theorem dX7_withProof_32 : decode cX7_withProof 32 = .ok (.aload_n 0, 1) := by decide +kernel
theorem dX7_withProof_33 : decode cX7_withProof 33 = .ok (.iload 5, 2) := by decide +kernel
theorem dX7_withProof_35 : decode cX7_withProof 35 = .ok (.iload 6, 2) := by decide +kernel
theorem dX7_withProof_37 : decode cX7_withProof 37 = .ok (.invokevirtual 315, 3) := by decide +kernel
theorem dX7_withProof_40 : decode cX7_withProof 40 = .ok (.i2l, 1) := by decide +kernel
theorem dX7_withProof_41 : decode cX7_withProof 41 = .ok (.ladd, 1) := by decide +kernel
theorem dX7_withProof_42 : decode cX7_withProof 42 = .ok (.lstore_n 3, 1) := by decide +kernel
theorem dX7_withProof_43 : decode cX7_withProof 43 = .ok (.iinc 6 1, 3) := by decide +kernel
theorem dX7_withProof_46 : decode cX7_withProof 46 = .ok (.goto (-26), 3) := by decide +kernel
theorem dX7_withProof_49 : decode cX7_withProof 49 = .ok (.iinc 5 1, 3) := by decide +kernel
theorem dX7_withProof_52 : decode cX7_withProof 52 = .ok (.goto (-47), 3) := by decide +kernel
theorem dX7_withProof_55 : decode cX7_withProof 55 = .ok (.iconst 0, 1) := by decide +kernel
theorem dX7_withProof_56 : decode cX7_withProof 56 = .ok (.istore 5, 2) := by decide +kernel
theorem dX7_withProof_58 : decode cX7_withProof 58 = .ok (.iload 5, 2) := by decide +kernel
theorem dX7_withProof_60 : decode cX7_withProof 60 = .ok (.aload_n 0, 1) := by decide +kernel
theorem dX7_withProof_61 : decode cX7_withProof 61 = .ok (.getfield 44, 3) := by decide +kernel
theorem dX7_withProof_64 : decode cX7_withProof 64 = .ok (.invokevirtual 201, 3) := by decide +kernel
theorem dX7_withProof_67 : decode cX7_withProof 67 = .ok (.if_icmp .ge 40, 3) := by decide +kernel
theorem dX7_withProof_70 : decode cX7_withProof 70 = .ok (.iconst 0, 1) := by decide +kernel
theorem dX7_withProof_71 : decode cX7_withProof 71 = .ok (.istore 6, 2) := by decide +kernel
theorem dX7_withProof_73 : decode cX7_withProof 73 = .ok (.iload 6, 2) := by decide +kernel
theorem dX7_withProof_75 : decode cX7_withProof 75 = .ok (.iconst 3, 1) := by decide +kernel
theorem dX7_withProof_76 : decode cX7_withProof 76 = .ok (.if_icmp .gt 25, 3) := by decide +kernel
theorem dX7_withProof_79 : decode cX7_withProof 79 = .ok (.lload_n 3, 1) := by decide +kernel
theorem dX7_withProof_80 : decode cX7_withProof 80 = .ok (.ldc2_w 300, 3) := by decide +kernel
theorem dX7_withProof_83 : decode cX7_withProof 83 = .ok (.lmul, 1) := by decide +kernel
theorem dX7_withProof_84 : decode cX7_withProof 84 = .ok (.aload_n 0, 1) := by decide +kernel
theorem dX7_withProof_85 : decode cX7_withProof 85 = .ok (.iload 5, 2) := by decide +kernel
theorem dX7_withProof_87 : decode cX7_withProof 87 = .ok (.iload 6, 2) := by decide +kernel
theorem dX7_withProof_89 : decode cX7_withProof 89 = .ok (.invokevirtual 318, 3) := by decide +kernel
theorem dX7_withProof_92 : decode cX7_withProof 92 = .ok (.i2l, 1) := by decide +kernel
theorem dX7_withProof_93 : decode cX7_withProof 93 = .ok (.ladd, 1) := by decide +kernel
theorem dX7_withProof_94 : decode cX7_withProof 94 = .ok (.lstore_n 3, 1) := by decide +kernel
theorem dX7_withProof_95 : decode cX7_withProof 95 = .ok (.iinc 6 1, 3) := by decide +kernel
theorem dX7_withProof_98 : decode cX7_withProof 98 = .ok (.goto (-25), 3) := by decide +kernel
theorem dX7_withProof_101 : decode cX7_withProof 101 = .ok (.iinc 5 1, 3) := by decide +kernel
theorem dX7_withProof_104 : decode cX7_withProof 104 = .ok (.goto (-46), 3) := by decide +kernel
theorem dX7_withProof_107 : decode cX7_withProof 107 = .ok (.lload_n 3, 1) := by decide +kernel
theorem dX7_withProof_108 : decode cX7_withProof 108 = .ok (.lreturn, 1) := by decide +kernel
theorem dX7_withTheorems_0 : decode cX7_withTheorems 0 = .ok (.lload_n 1, 1) := by decide +kernel
theorem dX7_withTheorems_1 : decode cX7_withTheorems 1 = .ok (.lstore_n 3, 1) := by decide +kernel
theorem dX7_withTheorems_2 : decode cX7_withTheorems 2 = .ok (.iconst 0, 1) := by decide +kernel
theorem dX7_withTheorems_3 : decode cX7_withTheorems 3 = .ok (.istore 5, 2) := by decide +kernel
theorem dX7_withTheorems_5 : decode cX7_withTheorems 5 = .ok (.iload 5, 2) := by decide +kernel
theorem dX7_withTheorems_7 : decode cX7_withTheorems 7 = .ok (.aload_n 0, 1) := by decide +kernel
theorem dX7_withTheorems_8 : decode cX7_withTheorems 8 = .ok (.getfield 35, 3) := by decide +kernel
theorem dX7_withTheorems_11 : decode cX7_withTheorems 11 = .ok (.invokevirtual 204, 3) := by decide +kernel
theorem dX7_withTheorems_14 : decode cX7_withTheorems 14 = .ok (.if_icmp .ge 41, 3) := by decide +kernel
theorem dX7_withTheorems_17 : decode cX7_withTheorems 17 = .ok (.iconst 0, 1) := by decide +kernel
theorem dX7_withTheorems_18 : decode cX7_withTheorems 18 = .ok (.istore 6, 2) := by decide +kernel
theorem dX7_withTheorems_20 : decode cX7_withTheorems 20 = .ok (.iload 6, 2) := by decide +kernel
theorem dX7_withTheorems_22 : decode cX7_withTheorems 22 = .ok (.bipush 6, 2) := by decide +kernel
theorem dX7_withTheorems_24 : decode cX7_withTheorems 24 = .ok (.if_icmp .gt 25, 3) := by decide +kernel
theorem dX7_withTheorems_27 : decode cX7_withTheorems 27 = .ok (.lload_n 3, 1) := by decide +kernel
theorem dX7_withTheorems_28 : decode cX7_withTheorems 28 = .ok (.ldc2_w 300, 3) := by decide +kernel
theorem dX7_withTheorems_31 : decode cX7_withTheorems 31 = .ok (.lmul, 1) := by decide +kernel
theorem dX7_withTheorems_32 : decode cX7_withTheorems 32 = .ok (.aload_n 0, 1) := by decide +kernel
theorem dX7_withTheorems_33 : decode cX7_withTheorems 33 = .ok (.iload 5, 2) := by decide +kernel
theorem dX7_withTheorems_35 : decode cX7_withTheorems 35 = .ok (.iload 6, 2) := by decide +kernel
theorem dX7_withTheorems_37 : decode cX7_withTheorems 37 = .ok (.invokevirtual 321, 3) := by decide +kernel
theorem dX7_withTheorems_40 : decode cX7_withTheorems 40 = .ok (.i2l, 1) := by decide +kernel
theorem dX7_withTheorems_41 : decode cX7_withTheorems 41 = .ok (.ladd, 1) := by decide +kernel
theorem dX7_withTheorems_42 : decode cX7_withTheorems 42 = .ok (.lstore_n 3, 1) := by decide +kernel
theorem dX7_withTheorems_43 : decode cX7_withTheorems 43 = .ok (.iinc 6 1, 3) := by decide +kernel
theorem dX7_withTheorems_46 : decode cX7_withTheorems 46 = .ok (.goto (-26), 3) := by decide +kernel
theorem dX7_withTheorems_49 : decode cX7_withTheorems 49 = .ok (.iinc 5 1, 3) := by decide +kernel
theorem dX7_withTheorems_52 : decode cX7_withTheorems 52 = .ok (.goto (-47), 3) := by decide +kernel
theorem dX7_withTheorems_55 : decode cX7_withTheorems 55 = .ok (.lload_n 3, 1) := by decide +kernel
theorem dX7_withTheorems_56 : decode cX7_withTheorems 56 = .ok (.lreturn, 1) := by decide +kernel
theorem dX8_init_0 : decode cX8_init 0 = .ok (.aload_n 0, 1) := by decide +kernel
theorem dX8_init_1 : decode cX8_init 1 = .ok (.invokespecial 1, 3) := by decide +kernel
theorem dX8_init_4 : decode cX8_init 4 = .ok (.aload_n 0, 1) := by decide +kernel
theorem dX8_init_5 : decode cX8_init 5 = .ok (.sipush 400, 3) := by decide +kernel
theorem dX8_init_8 : decode cX8_init 8 = .ok (.newarray .int, 2) := by decide +kernel
theorem dX8_init_10 : decode cX8_init 10 = .ok (.putfield 9, 3) := by decide +kernel
theorem dX8_init_13 : decode cX8_init 13 = .ok (.aload_n 0, 1) := by decide +kernel
theorem dX8_init_14 : decode cX8_init 14 = .ok (.iconst (-1), 1) := by decide +kernel
theorem dX8_init_15 : decode cX8_init 15 = .ok (.putfield 13, 3) := by decide +kernel
theorem dX8_init_18 : decode cX8_init 18 = .ok (.aload_n 0, 1) := by decide +kernel
theorem dX8_init_19 : decode cX8_init 19 = .ok (.sipush 400, 3) := by decide +kernel
theorem dX8_init_22 : decode cX8_init 22 = .ok (.newarray .int, 2) := by decide +kernel
theorem dX8_init_24 : decode cX8_init 24 = .ok (.putfield 17, 3) := by decide +kernel
theorem dX8_init_27 : decode cX8_init 27 = .ok (.aload_n 0, 1) := by decide +kernel
theorem dX8_init_28 : decode cX8_init 28 = .ok (.sipush 240, 3) := by decide +kernel
theorem dX8_init_31 : decode cX8_init 31 = .ok (.newarray .int, 2) := by decide +kernel
theorem dX8_init_33 : decode cX8_init 33 = .ok (.putfield 20, 3) := by decide +kernel
theorem dX8_init_36 : decode cX8_init 36 = .ok (.aload_n 0, 1) := by decide +kernel
theorem dX8_init_37 : decode cX8_init 37 = .ok (.sipush 240, 3) := by decide +kernel
theorem dX8_init_40 : decode cX8_init 40 = .ok (.newarray .int, 2) := by decide +kernel
theorem dX8_init_42 : decode cX8_init 42 = .ok (.putfield 23, 3) := by decide +kernel
theorem dX8_init_45 : decode cX8_init 45 = .ok (.aload_n 0, 1) := by decide +kernel
theorem dX8_init_46 : decode cX8_init 46 = .ok (.sipush 240, 3) := by decide +kernel
theorem dX8_init_49 : decode cX8_init 49 = .ok (.newarray .int, 2) := by decide +kernel
theorem dX8_init_51 : decode cX8_init 51 = .ok (.putfield 26, 3) := by decide +kernel
theorem dX8_init_54 : decode cX8_init 54 = .ok (.aload_n 0, 1) := by decide +kernel
theorem dX8_init_55 : decode cX8_init 55 = .ok (.sipush 240, 3) := by decide +kernel
theorem dX8_init_58 : decode cX8_init 58 = .ok (.newarray .int, 2) := by decide +kernel
theorem dX8_init_60 : decode cX8_init 60 = .ok (.putfield 29, 3) := by decide +kernel
theorem dX8_init_63 : decode cX8_init 63 = .ok (.aload_n 0, 1) := by decide +kernel
theorem dX8_init_64 : decode cX8_init 64 = .ok (.sipush 240, 3) := by decide +kernel
theorem dX8_init_67 : decode cX8_init 67 = .ok (.newarray .int, 2) := by decide +kernel
theorem dX8_init_69 : decode cX8_init 69 = .ok (.putfield 32, 3) := by decide +kernel
theorem dX8_init_72 : decode cX8_init 72 = .ok (.aload_n 0, 1) := by decide +kernel
theorem dX8_init_73 : decode cX8_init 73 = .ok (.ldc 35, 2) := by decide +kernel
theorem dX8_init_75 : decode cX8_init 75 = .ok (.newarray .boolean, 2) := by decide +kernel
theorem dX8_init_77 : decode cX8_init 77 = .ok (.putfield 36, 3) := by decide +kernel
theorem dX8_init_80 : decode cX8_init 80 = .ok (.aload_n 0, 1) := by decide +kernel
theorem dX8_init_81 : decode cX8_init 81 = .ok (.bipush 60, 2) := by decide +kernel
theorem dX8_init_83 : decode cX8_init 83 = .ok (.newarray .int, 2) := by decide +kernel
theorem dX8_init_85 : decode cX8_init 85 = .ok (.putfield 40, 3) := by decide +kernel
theorem dX8_init_88 : decode cX8_init 88 = .ok (.aload_n 0, 1) := by decide +kernel
theorem dX8_init_89 : decode cX8_init 89 = .ok (.bipush 60, 2) := by decide +kernel
theorem dX8_init_91 : decode cX8_init 91 = .ok (.newarray .int, 2) := by decide +kernel
theorem dX8_init_93 : decode cX8_init 93 = .ok (.putfield 43, 3) := by decide +kernel
theorem dX8_init_96 : decode cX8_init 96 = .ok (.aload_n 0, 1) := by decide +kernel
theorem dX8_init_97 : decode cX8_init 97 = .ok (.sipush 180, 3) := by decide +kernel
theorem dX8_init_100 : decode cX8_init 100 = .ok (.newarray .int, 2) := by decide +kernel
theorem dX8_init_102 : decode cX8_init 102 = .ok (.putfield 46, 3) := by decide +kernel
theorem dX8_init_105 : decode cX8_init 105 = .ok (.aload_n 0, 1) := by decide +kernel
theorem dX8_init_106 : decode cX8_init 106 = .ok (.bipush 60, 2) := by decide +kernel
theorem dX8_init_108 : decode cX8_init 108 = .ok (.newarray .int, 2) := by decide +kernel
theorem dX8_init_110 : decode cX8_init 110 = .ok (.putfield 49, 3) := by decide +kernel
theorem dX8_init_113 : decode cX8_init 113 = .ok (.aload_n 0, 1) := by decide +kernel
theorem dX8_init_114 : decode cX8_init 114 = .ok (.bipush 60, 2) := by decide +kernel
theorem dX8_init_116 : decode cX8_init 116 = .ok (.newarray .int, 2) := by decide +kernel
theorem dX8_init_118 : decode cX8_init 118 = .ok (.putfield 52, 3) := by decide +kernel
theorem dX8_init_121 : decode cX8_init 121 = .ok (.aload_n 0, 1) := by decide +kernel
theorem dX8_init_122 : decode cX8_init 122 = .ok (.bipush 60, 2) := by decide +kernel
theorem dX8_init_124 : decode cX8_init 124 = .ok (.newarray .int, 2) := by decide +kernel
theorem dX8_init_126 : decode cX8_init 126 = .ok (.putfield 55, 3) := by decide +kernel
theorem dX8_init_129 : decode cX8_init 129 = .ok (.aload_n 0, 1) := by decide +kernel
theorem dX8_init_130 : decode cX8_init 130 = .ok (.bipush 60, 2) := by decide +kernel
theorem dX8_init_132 : decode cX8_init 132 = .ok (.newarray .int, 2) := by decide +kernel
theorem dX8_init_134 : decode cX8_init 134 = .ok (.putfield 58, 3) := by decide +kernel
theorem dX8_init_137 : decode cX8_init 137 = .ok (.aload_n 0, 1) := by decide +kernel
theorem dX8_init_138 : decode cX8_init 138 = .ok (.iconst (-1), 1) := by decide +kernel
theorem dX8_init_139 : decode cX8_init 139 = .ok (.putfield 61, 3) := by decide +kernel
theorem dX8_init_142 : decode cX8_init 142 = .ok (.aload_n 0, 1) := by decide +kernel
theorem dX8_init_143 : decode cX8_init 143 = .ok (.bipush 120, 2) := by decide +kernel
theorem dX8_init_145 : decode cX8_init 145 = .ok (.newarray .int, 2) := by decide +kernel
theorem dX8_init_147 : decode cX8_init 147 = .ok (.putfield 64, 3) := by decide +kernel
theorem dX8_init_150 : decode cX8_init 150 = .ok (.aload_n 0, 1) := by decide +kernel
theorem dX8_init_151 : decode cX8_init 151 = .ok (.bipush 16, 2) := by decide +kernel
theorem dX8_init_153 : decode cX8_init 153 = .ok (.newarray .int, 2) := by decide +kernel
theorem dX8_init_155 : decode cX8_init 155 = .ok (.putfield 67, 3) := by decide +kernel
theorem dX8_init_158 : decode cX8_init 158 = .ok (.aload_n 0, 1) := by decide +kernel
theorem dX8_init_159 : decode cX8_init 159 = .ok (.bipush 16, 2) := by decide +kernel
theorem dX8_init_161 : decode cX8_init 161 = .ok (.newarray .int, 2) := by decide +kernel
theorem dX8_init_163 : decode cX8_init 163 = .ok (.putfield 70, 3) := by decide +kernel
theorem dX8_init_166 : decode cX8_init 166 = .ok (.aload_n 0, 1) := by decide +kernel
theorem dX8_init_167 : decode cX8_init 167 = .ok (.bipush 32, 2) := by decide +kernel
theorem dX8_init_169 : decode cX8_init 169 = .ok (.newarray .int, 2) := by decide +kernel
theorem dX8_init_171 : decode cX8_init 171 = .ok (.putfield 73, 3) := by decide +kernel
theorem dX8_init_174 : decode cX8_init 174 = .ok (.aload_n 0, 1) := by decide +kernel
theorem dX8_init_175 : decode cX8_init 175 = .ok (.bipush 16, 2) := by decide +kernel
theorem dX8_init_177 : decode cX8_init 177 = .ok (.newarray .int, 2) := by decide +kernel
theorem dX8_init_179 : decode cX8_init 179 = .ok (.putfield 76, 3) := by decide +kernel
theorem dX8_init_182 : decode cX8_init 182 = .ok (.aload_n 0, 1) := by decide +kernel
theorem dX8_init_183 : decode cX8_init 183 = .ok (.bipush 16, 2) := by decide +kernel
theorem dX8_init_185 : decode cX8_init 185 = .ok (.newarray .int, 2) := by decide +kernel
theorem dX8_init_187 : decode cX8_init 187 = .ok (.putfield 79, 3) := by decide +kernel
theorem dX8_init_190 : decode cX8_init 190 = .ok (.aload_n 0, 1) := by decide +kernel
theorem dX8_init_191 : decode cX8_init 191 = .ok (.bipush 16, 2) := by decide +kernel
theorem dX8_init_193 : decode cX8_init 193 = .ok (.newarray .int, 2) := by decide +kernel
theorem dX8_init_195 : decode cX8_init 195 = .ok (.putfield 82, 3) := by decide +kernel
theorem dX8_init_198 : decode cX8_init 198 = .ok (.aload_n 0, 1) := by decide +kernel
theorem dX8_init_199 : decode cX8_init 199 = .ok (.sipush 400, 3) := by decide +kernel
theorem dX8_init_202 : decode cX8_init 202 = .ok (.newarray .int, 2) := by decide +kernel
theorem dX8_init_204 : decode cX8_init 204 = .ok (.putfield 85, 3) := by decide +kernel
theorem dX8_init_207 : decode cX8_init 207 = .ok (.aload_n 0, 1) := by decide +kernel
theorem dX8_init_208 : decode cX8_init 208 = .ok (.sipush 400, 3) := by decide +kernel
theorem dX8_init_211 : decode cX8_init 211 = .ok (.newarray .int, 2) := by decide +kernel
theorem dX8_init_213 : decode cX8_init 213 = .ok (.putfield 88, 3) := by decide +kernel
theorem dX8_init_216 : decode cX8_init 216 = .ok (.aload_n 0, 1) := by decide +kernel
theorem dX8_init_217 : decode cX8_init 217 = .ok (.sipush 400, 3) := by decide +kernel
theorem dX8_init_220 : decode cX8_init 220 = .ok (.newarray .int, 2) := by decide +kernel
theorem dX8_init_222 : decode cX8_init 222 = .ok (.putfield 91, 3) := by decide +kernel
theorem dX8_init_225 : decode cX8_init 225 = .ok (.aload_n 0, 1) := by decide +kernel
theorem dX8_init_226 : decode cX8_init 226 = .ok (.sipush 400, 3) := by decide +kernel
theorem dX8_init_229 : decode cX8_init 229 = .ok (.newarray .int, 2) := by decide +kernel
theorem dX8_init_231 : decode cX8_init 231 = .ok (.putfield 94, 3) := by decide +kernel
theorem dX8_init_234 : decode cX8_init 234 = .ok (.aload_n 0, 1) := by decide +kernel
theorem dX8_init_235 : decode cX8_init 235 = .ok (.sipush 240, 3) := by decide +kernel
theorem dX8_init_238 : decode cX8_init 238 = .ok (.newarray .int, 2) := by decide +kernel
theorem dX8_init_240 : decode cX8_init 240 = .ok (.putfield 97, 3) := by decide +kernel
theorem dX8_init_243 : decode cX8_init 243 = .ok (.aload_n 0, 1) := by decide +kernel
theorem dX8_init_244 : decode cX8_init 244 = .ok (.bipush 60, 2) := by decide +kernel
theorem dX8_init_246 : decode cX8_init 246 = .ok (.newarray .boolean, 2) := by decide +kernel
theorem dX8_init_248 : decode cX8_init 248 = .ok (.putfield 100, 3) := by decide +kernel
theorem dX8_init_251 : decode cX8_init 251 = .ok (.aload_n 0, 1) := by decide +kernel
theorem dX8_init_252 : decode cX8_init 252 = .ok (.iconst 4, 1) := by decide +kernel
theorem dX8_init_253 : decode cX8_init 253 = .ok (.newarray .int, 2) := by decide +kernel
theorem dX8_init_255 : decode cX8_init 255 = .ok (.putfield 103, 3) := by decide +kernel
theorem dX8_init_258 : decode cX8_init 258 = .ok (.return_, 1) := by decide +kernel
theorem dX8_thrown_0 : decode cX8_thrown 0 = .ok (.aload_n 0, 1) := by decide +kernel
theorem dX8_thrown_1 : decode cX8_thrown 1 = .ok (.getfield 106, 3) := by decide +kernel
theorem dX8_thrown_4 : decode cX8_thrown 4 = .ok (.ireturn, 1) := by decide +kernel
theorem dX8_no_0 : decode cX8_no 0 = .ok (.aload_n 0, 1) := by decide +kernel
theorem dX8_no_1 : decode cX8_no 1 = .ok (.iload_n 1, 1) := by decide +kernel
theorem dX8_no_2 : decode cX8_no 2 = .ok (.putfield 106, 3) := by decide +kernel
theorem dX8_no_5 : decode cX8_no 5 = .ok (.iconst 0, 1) := by decide +kernel
theorem dX8_no_6 : decode cX8_no 6 = .ok (.ireturn, 1) := by decide +kernel
theorem dX8_isIn_0 : decode cX8_isIn 0 = .ok (.iload_n 0, 1) := by decide +kernel
theorem dX8_isIn_1 : decode cX8_isIn 1 = .ok (.iload_n 1, 1) := by decide +kernel
theorem dX8_isIn_2 : decode cX8_isIn 2 = .ok (.if_icmp .lt 12, 3) := by decide +kernel
theorem dX8_isIn_5 : decode cX8_isIn 5 = .ok (.iload_n 0, 1) := by decide +kernel
theorem dX8_isIn_6 : decode cX8_isIn 6 = .ok (.iload_n 2, 1) := by decide +kernel
theorem dX8_isIn_7 : decode cX8_isIn 7 = .ok (.if_icmp .gt 7, 3) := by decide +kernel
theorem dX8_isIn_10 : decode cX8_isIn 10 = .ok (.iconst 1, 1) := by decide +kernel
theorem dX8_isIn_11 : decode cX8_isIn 11 = .ok (.goto 4, 3) := by decide +kernel
theorem dX8_isIn_14 : decode cX8_isIn 14 = .ok (.iconst 0, 1) := by decide +kernel
theorem dX8_isIn_15 : decode cX8_isIn 15 = .ok (.ireturn, 1) := by decide +kernel
theorem dX8_isFormula_0 : decode cX8_isFormula 0 = .ok (.iload_n 1, 1) := by decide +kernel
theorem dX8_isFormula_1 : decode cX8_isFormula 1 = .ok (.iconst 0, 1) := by decide +kernel
theorem dX8_isFormula_2 : decode cX8_isFormula 2 = .ok (.aload_n 0, 1) := by decide +kernel
theorem dX8_isFormula_3 : decode cX8_isFormula 3 = .ok (.getfield 109, 3) := by decide +kernel
theorem dX8_isFormula_6 : decode cX8_isFormula 6 = .ok (.iconst 1, 1) := by decide +kernel
theorem dX8_isFormula_7 : decode cX8_isFormula 7 = .ok (.isub, 1) := by decide +kernel
theorem dX8_isFormula_8 : decode cX8_isFormula 8 = .ok (.invokestatic 112, 3) := by decide +kernel
theorem dX8_isFormula_11 : decode cX8_isFormula 11 = .ok (.ireturn, 1) := by decide +kernel
theorem dX8_feed_0 : decode cX8_feed 0 = .ok (.aload_n 0, 1) := by decide +kernel
theorem dX8_feed_1 : decode cX8_feed 1 = .ok (.iconst 0, 1) := by decide +kernel
theorem dX8_feed_2 : decode cX8_feed 2 = .ok (.putfield 106, 3) := by decide +kernel
theorem dX8_feed_5 : decode cX8_feed 5 = .ok (.aload_n 0, 1) := by decide +kernel
theorem dX8_feed_6 : decode cX8_feed 6 = .ok (.getfield 116, 3) := by decide +kernel
theorem dX8_feed_9 : decode cX8_feed 9 = .ok (.bipush 20, 2) := by decide +kernel
theorem dX8_feed_11 : decode cX8_feed 11 = .ok (.iadd, 1) := by decide +kernel
theorem dX8_feed_12 : decode cX8_feed 12 = .ok (.sipush 400, 3) := by decide +kernel
theorem dX8_feed_15 : decode cX8_feed 15 = .ok (.if_icmp .le 9, 3) := by decide +kernel
theorem dX8_feed_18 : decode cX8_feed 18 = .ok (.aload_n 0, 1) := by decide +kernel
theorem dX8_feed_19 : decode cX8_feed 19 = .ok (.iconst 1, 1) := by decide +kernel
theorem dX8_feed_20 : decode cX8_feed 20 = .ok (.invokevirtual 119, 3) := by decide +kernel
theorem dX8_feed_23 : decode cX8_feed 23 = .ok (.ireturn, 1) := by decide +kernel
theorem dX8_feed_24 : decode cX8_feed 24 = .ok (.iconst 5, 1) := by decide +kernel
theorem dX8_feed_25 : decode cX8_feed 25 = .ok (.newarray .int, 2) := by decide +kernel
theorem dX8_feed_27 : decode cX8_feed 27 = .ok (.dup, 1) := by decide +kernel
theorem dX8_feed_28 : decode cX8_feed 28 = .ok (.iconst 0, 1) := by decide +kernel
theorem dX8_feed_29 : decode cX8_feed 29 = .ok (.iload_n 1, 1) := by decide +kernel
theorem dX8_feed_30 : decode cX8_feed 30 = .ok (.iastore, 1) := by decide +kernel
theorem dX8_feed_31 : decode cX8_feed 31 = .ok (.dup, 1) := by decide +kernel
theorem dX8_feed_32 : decode cX8_feed 32 = .ok (.iconst 1, 1) := by decide +kernel
theorem dX8_feed_33 : decode cX8_feed 33 = .ok (.iload_n 2, 1) := by decide +kernel
theorem dX8_feed_34 : decode cX8_feed 34 = .ok (.iastore, 1) := by decide +kernel
theorem dX8_feed_35 : decode cX8_feed 35 = .ok (.dup, 1) := by decide +kernel
theorem dX8_feed_36 : decode cX8_feed 36 = .ok (.iconst 2, 1) := by decide +kernel
theorem dX8_feed_37 : decode cX8_feed 37 = .ok (.iload_n 3, 1) := by decide +kernel
theorem dX8_feed_38 : decode cX8_feed 38 = .ok (.iastore, 1) := by decide +kernel
theorem dX8_feed_39 : decode cX8_feed 39 = .ok (.dup, 1) := by decide +kernel
theorem dX8_feed_40 : decode cX8_feed 40 = .ok (.iconst 3, 1) := by decide +kernel
theorem dX8_feed_41 : decode cX8_feed 41 = .ok (.iload 4, 2) := by decide +kernel
theorem dX8_feed_43 : decode cX8_feed 43 = .ok (.iastore, 1) := by decide +kernel
theorem dX8_feed_44 : decode cX8_feed 44 = .ok (.dup, 1) := by decide +kernel
theorem dX8_feed_45 : decode cX8_feed 45 = .ok (.iconst 4, 1) := by decide +kernel
theorem dX8_feed_46 : decode cX8_feed 46 = .ok (.iload 5, 2) := by decide +kernel
theorem dX8_feed_48 : decode cX8_feed 48 = .ok (.iastore, 1) := by decide +kernel
theorem dX8_feed_49 : decode cX8_feed 49 = .ok (.astore 6, 2) := by decide +kernel
theorem dX8_feed_51 : decode cX8_feed 51 = .ok (.aload 6, 2) := by decide +kernel
theorem dX8_feed_53 : decode cX8_feed 53 = .ok (.astore 7, 2) := by decide +kernel
theorem dX8_feed_55 : decode cX8_feed 55 = .ok (.aload 7, 2) := by decide +kernel
theorem dX8_feed_57 : decode cX8_feed 57 = .ok (.arraylength, 1) := by decide +kernel
theorem dX8_feed_58 : decode cX8_feed 58 = .ok (.istore 8, 2) := by decide +kernel
theorem dX8_feed_60 : decode cX8_feed 60 = .ok (.iconst 0, 1) := by decide +kernel
theorem dX8_feed_61 : decode cX8_feed 61 = .ok (.istore 9, 2) := by decide +kernel
theorem dX8_feed_63 : decode cX8_feed 63 = .ok (.iload 9, 2) := by decide +kernel
theorem dX8_feed_65 : decode cX8_feed 65 = .ok (.iload 8, 2) := by decide +kernel
theorem dX8_feed_67 : decode cX8_feed 67 = .ok (.if_icmp .ge 61, 3) := by decide +kernel
theorem dX8_feed_70 : decode cX8_feed 70 = .ok (.aload 7, 2) := by decide +kernel
theorem dX8_feed_72 : decode cX8_feed 72 = .ok (.iload 9, 2) := by decide +kernel
theorem dX8_feed_74 : decode cX8_feed 74 = .ok (.iaload, 1) := by decide +kernel
theorem dX8_feed_75 : decode cX8_feed 75 = .ok (.istore 10, 2) := by decide +kernel
theorem dX8_feed_77 : decode cX8_feed 77 = .ok (.iconst 3, 1) := by decide +kernel
theorem dX8_feed_78 : decode cX8_feed 78 = .ok (.istore 11, 2) := by decide +kernel
theorem dX8_feed_80 : decode cX8_feed 80 = .ok (.iload 11, 2) := by decide +kernel
theorem dX8_feed_82 : decode cX8_feed 82 = .ok (.ifCond .lt 40, 3) := by decide +kernel
theorem dX8_feed_85 : decode cX8_feed 85 = .ok (.aload_n 0, 1) := by decide +kernel
theorem dX8_feed_86 : decode cX8_feed 86 = .ok (.getfield 9, 3) := by decide +kernel
theorem dX8_feed_89 : decode cX8_feed 89 = .ok (.aload_n 0, 1) := by decide +kernel
theorem dX8_feed_90 : decode cX8_feed 90 = .ok (.getfield 116, 3) := by decide +kernel
theorem dX8_feed_93 : decode cX8_feed 93 = .ok (.iload 10, 2) := by decide +kernel
theorem dX8_feed_95 : decode cX8_feed 95 = .ok (.bipush 8, 2) := by decide +kernel
theorem dX8_feed_97 : decode cX8_feed 97 = .ok (.iload 11, 2) := by decide +kernel
theorem dX8_feed_99 : decode cX8_feed 99 = .ok (.imul, 1) := by decide +kernel
theorem dX8_feed_100 : decode cX8_feed 100 = .ok (.ishr, 1) := by decide +kernel
theorem dX8_feed_101 : decode cX8_feed 101 = .ok (.sipush 255, 3) := by decide +kernel
theorem dX8_feed_104 : decode cX8_feed 104 = .ok (.iand, 1) := by decide +kernel
theorem dX8_feed_105 : decode cX8_feed 105 = .ok (.iastore, 1) := by decide +kernel
theorem dX8_feed_106 : decode cX8_feed 106 = .ok (.aload_n 0, 1) := by decide +kernel
theorem dX8_feed_107 : decode cX8_feed 107 = .ok (.dup, 1) := by decide +kernel
theorem dX8_feed_108 : decode cX8_feed 108 = .ok (.getfield 116, 3) := by decide +kernel
theorem dX8_feed_111 : decode cX8_feed 111 = .ok (.iconst 1, 1) := by decide +kernel
theorem dX8_feed_112 : decode cX8_feed 112 = .ok (.iadd, 1) := by decide +kernel
theorem dX8_feed_113 : decode cX8_feed 113 = .ok (.putfield 116, 3) := by decide +kernel
theorem dX8_feed_116 : decode cX8_feed 116 = .ok (.iinc 11 (-1), 3) := by decide +kernel
theorem dX8_feed_119 : decode cX8_feed 119 = .ok (.goto (-39), 3) := by decide +kernel
theorem dX8_feed_122 : decode cX8_feed 122 = .ok (.iinc 9 1, 3) := by decide +kernel
theorem dX8_feed_125 : decode cX8_feed 125 = .ok (.goto (-62), 3) := by decide +kernel
theorem dX8_feed_128 : decode cX8_feed 128 = .ok (.aload_n 0, 1) := by decide +kernel
theorem dX8_feed_129 : decode cX8_feed 129 = .ok (.getfield 116, 3) := by decide +kernel
theorem dX8_feed_132 : decode cX8_feed 132 = .ok (.ireturn, 1) := by decide +kernel
theorem dX8_trim_0 : decode cX8_trim 0 = .ok (.aload_n 0, 1) := by decide +kernel
theorem dX8_trim_1 : decode cX8_trim 1 = .ok (.iconst 0, 1) := by decide +kernel
theorem dX8_trim_2 : decode cX8_trim 2 = .ok (.putfield 106, 3) := by decide +kernel
theorem dX8_trim_5 : decode cX8_trim 5 = .ok (.iload_n 1, 1) := by decide +kernel
theorem dX8_trim_6 : decode cX8_trim 6 = .ok (.iconst 0, 1) := by decide +kernel
theorem dX8_trim_7 : decode cX8_trim 7 = .ok (.aload_n 0, 1) := by decide +kernel
theorem dX8_trim_8 : decode cX8_trim 8 = .ok (.getfield 116, 3) := by decide +kernel
theorem dX8_trim_11 : decode cX8_trim 11 = .ok (.invokestatic 112, 3) := by decide +kernel
theorem dX8_trim_14 : decode cX8_trim 14 = .ok (.ifCond .ne 9, 3) := by decide +kernel
theorem dX8_trim_17 : decode cX8_trim 17 = .ok (.aload_n 0, 1) := by decide +kernel
theorem dX8_trim_18 : decode cX8_trim 18 = .ok (.iconst 1, 1) := by decide +kernel
theorem dX8_trim_19 : decode cX8_trim 19 = .ok (.invokevirtual 119, 3) := by decide +kernel
theorem dX8_trim_22 : decode cX8_trim 22 = .ok (.ireturn, 1) := by decide +kernel
theorem dX8_trim_23 : decode cX8_trim 23 = .ok (.aload_n 0, 1) := by decide +kernel
theorem dX8_trim_24 : decode cX8_trim 24 = .ok (.iload_n 1, 1) := by decide +kernel
theorem dX8_trim_25 : decode cX8_trim 25 = .ok (.putfield 116, 3) := by decide +kernel
theorem dX8_trim_28 : decode cX8_trim 28 = .ok (.iload_n 1, 1) := by decide +kernel
theorem dX8_trim_29 : decode cX8_trim 29 = .ok (.ireturn, 1) := by decide +kernel
theorem dX8_find_0 : decode cX8_find 0 = .ok (.iconst 0, 1) := by decide +kernel
theorem dX8_find_1 : decode cX8_find 1 = .ok (.istore 4, 2) := by decide +kernel
theorem dX8_find_3 : decode cX8_find 3 = .ok (.iload 4, 2) := by decide +kernel
theorem dX8_find_5 : decode cX8_find 5 = .ok (.aload_n 0, 1) := by decide +kernel
theorem dX8_find_6 : decode cX8_find 6 = .ok (.getfield 109, 3) := by decide +kernel
theorem dX8_find_9 : decode cX8_find 9 = .ok (.if_icmp .ge 45, 3) := by decide +kernel
theorem dX8_find_12 : decode cX8_find 12 = .ok (.aload_n 0, 1) := by decide +kernel
theorem dX8_find_13 : decode cX8_find 13 = .ok (.getfield 20, 3) := by decide +kernel
theorem dX8_find_16 : decode cX8_find 16 = .ok (.iload 4, 2) := by decide +kernel
theorem dX8_find_18 : decode cX8_find 18 = .ok (.iaload, 1) := by decide +kernel
theorem dX8_find_19 : decode cX8_find 19 = .ok (.iload_n 1, 1) := by decide +kernel
theorem dX8_find_20 : decode cX8_find 20 = .ok (.if_icmp .ne 28, 3) := by decide +kernel
theorem dX8_find_23 : decode cX8_find 23 = .ok (.aload_n 0, 1) := by decide +kernel
theorem dX8_find_24 : decode cX8_find 24 = .ok (.getfield 23, 3) := by decide +kernel
theorem dX8_find_27 : decode cX8_find 27 = .ok (.iload 4, 2) := by decide +kernel
theorem dX8_find_29 : decode cX8_find 29 = .ok (.iaload, 1) := by decide +kernel
theorem dX8_find_30 : decode cX8_find 30 = .ok (.iload_n 2, 1) := by decide +kernel
theorem dX8_find_31 : decode cX8_find 31 = .ok (.if_icmp .ne 17, 3) := by decide +kernel
theorem dX8_find_34 : decode cX8_find 34 = .ok (.aload_n 0, 1) := by decide +kernel
theorem dX8_find_35 : decode cX8_find 35 = .ok (.getfield 26, 3) := by decide +kernel
theorem dX8_find_38 : decode cX8_find 38 = .ok (.iload 4, 2) := by decide +kernel
theorem dX8_find_40 : decode cX8_find 40 = .ok (.iaload, 1) := by decide +kernel
theorem dX8_find_41 : decode cX8_find 41 = .ok (.iload_n 3, 1) := by decide +kernel
theorem dX8_find_42 : decode cX8_find 42 = .ok (.if_icmp .ne 6, 3) := by decide +kernel
theorem dX8_find_45 : decode cX8_find 45 = .ok (.iload 4, 2) := by decide +kernel
theorem dX8_find_47 : decode cX8_find 47 = .ok (.ireturn, 1) := by decide +kernel
theorem dX8_find_48 : decode cX8_find 48 = .ok (.iinc 4 1, 3) := by decide +kernel
theorem dX8_find_51 : decode cX8_find 51 = .ok (.goto (-48), 3) := by decide +kernel
theorem dX8_find_54 : decode cX8_find 54 = .ok (.iconst (-1), 1) := by decide +kernel
theorem dX8_find_55 : decode cX8_find 55 = .ok (.ireturn, 1) := by decide +kernel
theorem dX8_told_0 : decode cX8_told 0 = .ok (.iload_n 0, 1) := by decide +kernel
theorem dX8_told_1 : decode cX8_told 1 = .ok (.iconst 2, 1) := by decide +kernel
theorem dX8_told_2 : decode cX8_told 2 = .ok (.if_icmp .ne 15, 3) := by decide +kernel
theorem dX8_told_5 : decode cX8_told 5 = .ok (.iload_n 1, 1) := by decide +kernel
theorem dX8_told_6 : decode cX8_told 6 = .ok (.ifCond .ne 7, 3) := by decide +kernel
theorem dX8_told_9 : decode cX8_told 9 = .ok (.iconst 1, 1) := by decide +kernel
theorem dX8_told_10 : decode cX8_told 10 = .ok (.goto 62, 3) := by decide +kernel
theorem dX8_told_13 : decode cX8_told 13 = .ok (.iconst 0, 1) := by decide +kernel
theorem dX8_told_14 : decode cX8_told 14 = .ok (.goto 58, 3) := by decide +kernel
theorem dX8_told_17 : decode cX8_told 17 = .ok (.iload_n 0, 1) := by decide +kernel
theorem dX8_told_18 : decode cX8_told 18 = .ok (.iconst 3, 1) := by decide +kernel
theorem dX8_told_19 : decode cX8_told 19 = .ok (.if_icmp .ne 19, 3) := by decide +kernel
theorem dX8_told_22 : decode cX8_told 22 = .ok (.iload_n 1, 1) := by decide +kernel
theorem dX8_told_23 : decode cX8_told 23 = .ok (.ifCond .eq 11, 3) := by decide +kernel
theorem dX8_told_26 : decode cX8_told 26 = .ok (.iload_n 2, 1) := by decide +kernel
theorem dX8_told_27 : decode cX8_told 27 = .ok (.ifCond .eq 7, 3) := by decide +kernel
theorem dX8_told_30 : decode cX8_told 30 = .ok (.iconst 1, 1) := by decide +kernel
theorem dX8_told_31 : decode cX8_told 31 = .ok (.goto 41, 3) := by decide +kernel
theorem dX8_told_34 : decode cX8_told 34 = .ok (.iconst 0, 1) := by decide +kernel
theorem dX8_told_35 : decode cX8_told 35 = .ok (.goto 37, 3) := by decide +kernel
theorem dX8_told_38 : decode cX8_told 38 = .ok (.iload_n 0, 1) := by decide +kernel
theorem dX8_told_39 : decode cX8_told 39 = .ok (.iconst 4, 1) := by decide +kernel
theorem dX8_told_40 : decode cX8_told 40 = .ok (.if_icmp .ne 19, 3) := by decide +kernel
theorem dX8_told_43 : decode cX8_told 43 = .ok (.iload_n 1, 1) := by decide +kernel
theorem dX8_told_44 : decode cX8_told 44 = .ok (.ifCond .ne 7, 3) := by decide +kernel
theorem dX8_told_47 : decode cX8_told 47 = .ok (.iload_n 2, 1) := by decide +kernel
theorem dX8_told_48 : decode cX8_told 48 = .ok (.ifCond .eq 7, 3) := by decide +kernel
theorem dX8_told_51 : decode cX8_told 51 = .ok (.iconst 1, 1) := by decide +kernel
theorem dX8_told_52 : decode cX8_told 52 = .ok (.goto 20, 3) := by decide +kernel
theorem dX8_told_55 : decode cX8_told 55 = .ok (.iconst 0, 1) := by decide +kernel
theorem dX8_told_56 : decode cX8_told 56 = .ok (.goto 16, 3) := by decide +kernel
theorem dX8_told_59 : decode cX8_told 59 = .ok (.iload_n 1, 1) := by decide +kernel
theorem dX8_told_60 : decode cX8_told 60 = .ok (.ifCond .eq 7, 3) := by decide +kernel
theorem dX8_told_63 : decode cX8_told 63 = .ok (.iload_n 2, 1) := by decide +kernel
theorem dX8_told_64 : decode cX8_told 64 = .ok (.ifCond .eq 7, 3) := by decide +kernel
theorem dX8_told_67 : decode cX8_told 67 = .ok (.iconst 1, 1) := by decide +kernel
theorem dX8_told_68 : decode cX8_told 68 = .ok (.goto 4, 3) := by decide +kernel
theorem dX8_told_71 : decode cX8_told 71 = .ok (.iconst 0, 1) := by decide +kernel
theorem dX8_told_72 : decode cX8_told 72 = .ok (.ireturn, 1) := by decide +kernel
theorem dX8_known_0 : decode cX8_known 0 = .ok (.aload_n 0, 1) := by decide +kernel
theorem dX8_known_1 : decode cX8_known 1 = .ok (.iload_n 1, 1) := by decide +kernel
theorem dX8_known_2 : decode cX8_known 2 = .ok (.iload_n 2, 1) := by decide +kernel
theorem dX8_known_3 : decode cX8_known 3 = .ok (.iload_n 3, 1) := by decide +kernel
theorem dX8_known_4 : decode cX8_known 4 = .ok (.invokevirtual 123, 3) := by decide +kernel
theorem dX8_known_7 : decode cX8_known 7 = .ok (.istore 4, 2) := by decide +kernel
theorem dX8_known_9 : decode cX8_known 9 = .ok (.iload 4, 2) := by decide +kernel
theorem dX8_known_11 : decode cX8_known 11 = .ok (.iconst (-1), 1) := by decide +kernel
theorem dX8_known_12 : decode cX8_known 12 = .ok (.if_icmp .ne 13, 3) := by decide +kernel
theorem dX8_known_15 : decode cX8_known 15 = .ok (.aload_n 0, 1) := by decide +kernel
theorem dX8_known_16 : decode cX8_known 16 = .ok (.getfield 109, 3) := by decide +kernel
theorem dX8_known_19 : decode cX8_known 19 = .ok (.sipush 240, 3) := by decide +kernel
theorem dX8_known_22 : decode cX8_known 22 = .ok (.if_icmp .ne 6, 3) := by decide +kernel
theorem dX8_known_25 : decode cX8_known 25 = .ok (.iload 4, 2) := by decide +kernel
theorem dX8_known_27 : decode cX8_known 27 = .ok (.ireturn, 1) := by decide +kernel
theorem dX8_known_28 : decode cX8_known 28 = .ok (.aload_n 0, 1) := by decide +kernel
theorem dX8_known_29 : decode cX8_known 29 = .ok (.getfield 109, 3) := by decide +kernel
theorem dX8_known_32 : decode cX8_known 32 = .ok (.istore 5, 2) := by decide +kernel
theorem dX8_known_34 : decode cX8_known 34 = .ok (.aload_n 0, 1) := by decide +kernel
theorem dX8_known_35 : decode cX8_known 35 = .ok (.getfield 20, 3) := by decide +kernel
theorem dX8_known_38 : decode cX8_known 38 = .ok (.iload 5, 2) := by decide +kernel
theorem dX8_known_40 : decode cX8_known 40 = .ok (.iload_n 1, 1) := by decide +kernel
theorem dX8_known_41 : decode cX8_known 41 = .ok (.iastore, 1) := by decide +kernel
theorem dX8_known_42 : decode cX8_known 42 = .ok (.aload_n 0, 1) := by decide +kernel
theorem dX8_known_43 : decode cX8_known 43 = .ok (.getfield 23, 3) := by decide +kernel
theorem dX8_known_46 : decode cX8_known 46 = .ok (.iload 5, 2) := by decide +kernel
theorem dX8_known_48 : decode cX8_known 48 = .ok (.iload_n 2, 1) := by decide +kernel
theorem dX8_known_49 : decode cX8_known 49 = .ok (.iastore, 1) := by decide +kernel
theorem dX8_known_50 : decode cX8_known 50 = .ok (.aload_n 0, 1) := by decide +kernel
theorem dX8_known_51 : decode cX8_known 51 = .ok (.getfield 26, 3) := by decide +kernel
theorem dX8_known_54 : decode cX8_known 54 = .ok (.iload 5, 2) := by decide +kernel
theorem dX8_known_56 : decode cX8_known 56 = .ok (.iload_n 3, 1) := by decide +kernel
theorem dX8_known_57 : decode cX8_known 57 = .ok (.iastore, 1) := by decide +kernel
theorem dX8_known_58 : decode cX8_known 58 = .ok (.aload_n 0, 1) := by decide +kernel
theorem dX8_known_59 : decode cX8_known 59 = .ok (.getfield 29, 3) := by decide +kernel
theorem dX8_known_62 : decode cX8_known 62 = .ok (.iload 5, 2) := by decide +kernel
theorem dX8_known_64 : decode cX8_known 64 = .ok (.iload_n 1, 1) := by decide +kernel
theorem dX8_known_65 : decode cX8_known 65 = .ok (.ifCond .ne 9, 3) := by decide +kernel
theorem dX8_known_68 : decode cX8_known 68 = .ok (.iconst 1, 1) := by decide +kernel
theorem dX8_known_69 : decode cX8_known 69 = .ok (.iload_n 2, 1) := by decide +kernel
theorem dX8_known_70 : decode cX8_known 70 = .ok (.ishl, 1) := by decide +kernel
theorem dX8_known_71 : decode cX8_known 71 = .ok (.goto 34, 3) := by decide +kernel
theorem dX8_known_74 : decode cX8_known 74 = .ok (.iload_n 1, 1) := by decide +kernel
theorem dX8_known_75 : decode cX8_known 75 = .ok (.iconst 1, 1) := by decide +kernel
theorem dX8_known_76 : decode cX8_known 76 = .ok (.if_icmp .ne 7, 3) := by decide +kernel
theorem dX8_known_79 : decode cX8_known 79 = .ok (.iconst 0, 1) := by decide +kernel
theorem dX8_known_80 : decode cX8_known 80 = .ok (.goto 25, 3) := by decide +kernel
theorem dX8_known_83 : decode cX8_known 83 = .ok (.aload_n 0, 1) := by decide +kernel
theorem dX8_known_84 : decode cX8_known 84 = .ok (.getfield 29, 3) := by decide +kernel
theorem dX8_known_87 : decode cX8_known 87 = .ok (.iload_n 2, 1) := by decide +kernel
theorem dX8_known_88 : decode cX8_known 88 = .ok (.iaload, 1) := by decide +kernel
theorem dX8_known_89 : decode cX8_known 89 = .ok (.iload_n 3, 1) := by decide +kernel
theorem dX8_known_90 : decode cX8_known 90 = .ok (.iconst (-1), 1) := by decide +kernel
theorem dX8_known_91 : decode cX8_known 91 = .ok (.if_icmp .ne 7, 3) := by decide +kernel
theorem dX8_known_94 : decode cX8_known 94 = .ok (.iconst 0, 1) := by decide +kernel
theorem dX8_known_95 : decode cX8_known 95 = .ok (.goto 9, 3) := by decide +kernel
theorem dX8_known_98 : decode cX8_known 98 = .ok (.aload_n 0, 1) := by decide +kernel
theorem dX8_known_99 : decode cX8_known 99 = .ok (.getfield 29, 3) := by decide +kernel
theorem dX8_known_102 : decode cX8_known 102 = .ok (.iload_n 3, 1) := by decide +kernel
theorem dX8_known_103 : decode cX8_known 103 = .ok (.iaload, 1) := by decide +kernel
theorem dX8_known_104 : decode cX8_known 104 = .ok (.ior, 1) := by decide +kernel
theorem dX8_known_105 : decode cX8_known 105 = .ok (.iastore, 1) := by decide +kernel
theorem dX8_known_106 : decode cX8_known 106 = .ok (.aload_n 0, 1) := by decide +kernel
theorem dX8_known_107 : decode cX8_known 107 = .ok (.getfield 32, 3) := by decide +kernel
theorem dX8_known_110 : decode cX8_known 110 = .ok (.iload 5, 2) := by decide +kernel
theorem dX8_known_112 : decode cX8_known 112 = .ok (.iload_n 1, 1) := by decide +kernel
theorem dX8_known_113 : decode cX8_known 113 = .ok (.iconst 2, 1) := by decide +kernel
theorem dX8_known_114 : decode cX8_known 114 = .ok (.if_icmp .ge 7, 3) := by decide +kernel
theorem dX8_known_117 : decode cX8_known 117 = .ok (.iconst 1, 1) := by decide +kernel
theorem dX8_known_118 : decode cX8_known 118 = .ok (.goto 32, 3) := by decide +kernel
theorem dX8_known_121 : decode cX8_known 121 = .ok (.ldc 127, 2) := by decide +kernel
theorem dX8_known_123 : decode cX8_known 123 = .ok (.iconst 1, 1) := by decide +kernel
theorem dX8_known_124 : decode cX8_known 124 = .ok (.aload_n 0, 1) := by decide +kernel
theorem dX8_known_125 : decode cX8_known 125 = .ok (.getfield 32, 3) := by decide +kernel
theorem dX8_known_128 : decode cX8_known 128 = .ok (.iload_n 2, 1) := by decide +kernel
theorem dX8_known_129 : decode cX8_known 129 = .ok (.iaload, 1) := by decide +kernel
theorem dX8_known_130 : decode cX8_known 130 = .ok (.iadd, 1) := by decide +kernel
theorem dX8_known_131 : decode cX8_known 131 = .ok (.iload_n 3, 1) := by decide +kernel
theorem dX8_known_132 : decode cX8_known 132 = .ok (.iconst (-1), 1) := by decide +kernel
theorem dX8_known_133 : decode cX8_known 133 = .ok (.if_icmp .ne 7, 3) := by decide +kernel
theorem dX8_known_136 : decode cX8_known 136 = .ok (.iconst 0, 1) := by decide +kernel
theorem dX8_known_137 : decode cX8_known 137 = .ok (.goto 9, 3) := by decide +kernel
theorem dX8_known_140 : decode cX8_known 140 = .ok (.aload_n 0, 1) := by decide +kernel
theorem dX8_known_141 : decode cX8_known 141 = .ok (.getfield 32, 3) := by decide +kernel
theorem dX8_known_144 : decode cX8_known 144 = .ok (.iload_n 3, 1) := by decide +kernel
theorem dX8_known_145 : decode cX8_known 145 = .ok (.iaload, 1) := by decide +kernel
theorem dX8_known_146 : decode cX8_known 146 = .ok (.iadd, 1) := by decide +kernel
theorem dX8_known_147 : decode cX8_known 147 = .ok (.invokestatic 128, 3) := by decide +kernel
theorem dX8_known_150 : decode cX8_known 150 = .ok (.iastore, 1) := by decide +kernel
theorem dX8_known_151 : decode cX8_known 151 = .ok (.iconst 0, 1) := by decide +kernel
theorem dX8_known_152 : decode cX8_known 152 = .ok (.istore 6, 2) := by decide +kernel
theorem dX8_known_154 : decode cX8_known 154 = .ok (.iload 6, 2) := by decide +kernel
theorem dX8_known_156 : decode cX8_known 156 = .ok (.sipush 256, 3) := by decide +kernel
theorem dX8_known_159 : decode cX8_known 159 = .ok (.if_icmp .ge 88, 3) := by decide +kernel
theorem dX8_known_162 : decode cX8_known 162 = .ok (.aload_n 0, 1) := by decide +kernel
theorem dX8_known_163 : decode cX8_known 163 = .ok (.getfield 36, 3) := by decide +kernel
theorem dX8_known_166 : decode cX8_known 166 = .ok (.iload 5, 2) := by decide +kernel
theorem dX8_known_168 : decode cX8_known 168 = .ok (.bipush 8, 2) := by decide +kernel
theorem dX8_known_170 : decode cX8_known 170 = .ok (.ishl, 1) := by decide +kernel
theorem dX8_known_171 : decode cX8_known 171 = .ok (.iload 6, 2) := by decide +kernel
theorem dX8_known_173 : decode cX8_known 173 = .ok (.ior, 1) := by decide +kernel
theorem dX8_known_174 : decode cX8_known 174 = .ok (.iload_n 1, 1) := by decide +kernel
theorem dX8_known_175 : decode cX8_known 175 = .ok (.ifCond .ne 21, 3) := by decide +kernel
theorem dX8_known_178 : decode cX8_known 178 = .ok (.iload 6, 2) := by decide +kernel
theorem dX8_known_180 : decode cX8_known 180 = .ok (.iload_n 2, 1) := by decide +kernel
theorem dX8_known_181 : decode cX8_known 181 = .ok (.ishr, 1) := by decide +kernel
theorem dX8_known_182 : decode cX8_known 182 = .ok (.iconst 1, 1) := by decide +kernel
theorem dX8_known_183 : decode cX8_known 183 = .ok (.iand, 1) := by decide +kernel
theorem dX8_known_184 : decode cX8_known 184 = .ok (.iconst 1, 1) := by decide +kernel
theorem dX8_known_185 : decode cX8_known 185 = .ok (.if_icmp .ne 7, 3) := by decide +kernel
theorem dX8_known_188 : decode cX8_known 188 = .ok (.iconst 1, 1) := by decide +kernel
theorem dX8_known_189 : decode cX8_known 189 = .ok (.goto 51, 3) := by decide +kernel
theorem dX8_known_192 : decode cX8_known 192 = .ok (.iconst 0, 1) := by decide +kernel
theorem dX8_known_193 : decode cX8_known 193 = .ok (.goto 47, 3) := by decide +kernel
theorem dX8_known_196 : decode cX8_known 196 = .ok (.iload_n 1, 1) := by decide +kernel
theorem dX8_known_197 : decode cX8_known 197 = .ok (.iconst 1, 1) := by decide +kernel
theorem dX8_known_198 : decode cX8_known 198 = .ok (.if_icmp .eq 41, 3) := by decide +kernel
theorem dX8_known_201 : decode cX8_known 201 = .ok (.iload_n 1, 1) := by decide +kernel
theorem dX8_known_202 : decode cX8_known 202 = .ok (.aload_n 0, 1) := by decide +kernel
theorem dX8_known_203 : decode cX8_known 203 = .ok (.iload_n 2, 1) := by decide +kernel
theorem dX8_known_204 : decode cX8_known 204 = .ok (.iload 6, 2) := by decide +kernel
theorem dX8_known_206 : decode cX8_known 206 = .ok (.invokevirtual 134, 3) := by decide +kernel
theorem dX8_known_209 : decode cX8_known 209 = .ok (.iload_n 3, 1) := by decide +kernel
theorem dX8_known_210 : decode cX8_known 210 = .ok (.iconst (-1), 1) := by decide +kernel
theorem dX8_known_211 : decode cX8_known 211 = .ok (.if_icmp .eq 17, 3) := by decide +kernel
theorem dX8_known_214 : decode cX8_known 214 = .ok (.aload_n 0, 1) := by decide +kernel
theorem dX8_known_215 : decode cX8_known 215 = .ok (.iload_n 3, 1) := by decide +kernel
theorem dX8_known_216 : decode cX8_known 216 = .ok (.iload 6, 2) := by decide +kernel
theorem dX8_known_218 : decode cX8_known 218 = .ok (.invokevirtual 134, 3) := by decide +kernel
theorem dX8_known_221 : decode cX8_known 221 = .ok (.ifCond .eq 7, 3) := by decide +kernel
theorem dX8_known_224 : decode cX8_known 224 = .ok (.iconst 1, 1) := by decide +kernel
theorem dX8_known_225 : decode cX8_known 225 = .ok (.goto 4, 3) := by decide +kernel
theorem dX8_known_228 : decode cX8_known 228 = .ok (.iconst 0, 1) := by decide +kernel
theorem dX8_known_229 : decode cX8_known 229 = .ok (.invokestatic 138, 3) := by decide +kernel
theorem dX8_known_232 : decode cX8_known 232 = .ok (.ifCond .eq 7, 3) := by decide +kernel
theorem dX8_known_235 : decode cX8_known 235 = .ok (.iconst 1, 1) := by decide +kernel
theorem dX8_known_236 : decode cX8_known 236 = .ok (.goto 4, 3) := by decide +kernel
theorem dX8_known_239 : decode cX8_known 239 = .ok (.iconst 0, 1) := by decide +kernel
theorem dX8_known_240 : decode cX8_known 240 = .ok (.bastore, 1) := by decide +kernel
theorem dX8_known_241 : decode cX8_known 241 = .ok (.iinc 6 1, 3) := by decide +kernel
theorem dX8_known_244 : decode cX8_known 244 = .ok (.goto (-90), 3) := by decide +kernel
theorem dX8_known_247 : decode cX8_known 247 = .ok (.aload_n 0, 1) := by decide +kernel
theorem dX8_known_248 : decode cX8_known 248 = .ok (.dup, 1) := by decide +kernel
theorem dX8_known_249 : decode cX8_known 249 = .ok (.getfield 109, 3) := by decide +kernel
theorem dX8_known_252 : decode cX8_known 252 = .ok (.iconst 1, 1) := by decide +kernel
theorem dX8_known_253 : decode cX8_known 253 = .ok (.iadd, 1) := by decide +kernel
theorem dX8_known_254 : decode cX8_known 254 = .ok (.putfield 109, 3) := by decide +kernel
theorem dX8_known_257 : decode cX8_known 257 = .ok (.iload 5, 2) := by decide +kernel
theorem dX8_known_259 : decode cX8_known 259 = .ok (.ireturn, 1) := by decide +kernel
theorem dX8_isTrueAt_0 : decode cX8_isTrueAt 0 = .ok (.aload_n 0, 1) := by decide +kernel
theorem dX8_isTrueAt_1 : decode cX8_isTrueAt 1 = .ok (.getfield 36, 3) := by decide +kernel
theorem dX8_isTrueAt_4 : decode cX8_isTrueAt 4 = .ok (.iload_n 1, 1) := by decide +kernel
theorem dX8_isTrueAt_5 : decode cX8_isTrueAt 5 = .ok (.bipush 8, 2) := by decide +kernel
theorem dX8_isTrueAt_7 : decode cX8_isTrueAt 7 = .ok (.ishl, 1) := by decide +kernel
theorem dX8_isTrueAt_8 : decode cX8_isTrueAt 8 = .ok (.iload_n 2, 1) := by decide +kernel
theorem dX8_isTrueAt_9 : decode cX8_isTrueAt 9 = .ok (.ior, 1) := by decide +kernel
theorem dX8_isTrueAt_10 : decode cX8_isTrueAt 10 = .ok (.baload, 1) := by decide +kernel
theorem dX8_isTrueAt_11 : decode cX8_isTrueAt 11 = .ok (.ireturn, 1) := by decide +kernel
theorem dX8_part_0 : decode cX8_part 0 = .ok (.aload_n 0, 1) := by decide +kernel
theorem dX8_part_1 : decode cX8_part 1 = .ok (.getfield 85, 3) := by decide +kernel
theorem dX8_part_4 : decode cX8_part 4 = .ok (.aload_n 0, 1) := by decide +kernel
theorem dX8_part_5 : decode cX8_part 5 = .ok (.getfield 142, 3) := by decide +kernel
theorem dX8_part_8 : decode cX8_part 8 = .ok (.iload_n 1, 1) := by decide +kernel
theorem dX8_part_9 : decode cX8_part 9 = .ok (.iastore, 1) := by decide +kernel
theorem dX8_part_10 : decode cX8_part 10 = .ok (.aload_n 0, 1) := by decide +kernel
theorem dX8_part_11 : decode cX8_part 11 = .ok (.getfield 88, 3) := by decide +kernel
theorem dX8_part_14 : decode cX8_part 14 = .ok (.aload_n 0, 1) := by decide +kernel
theorem dX8_part_15 : decode cX8_part 15 = .ok (.getfield 142, 3) := by decide +kernel
theorem dX8_part_18 : decode cX8_part 18 = .ok (.iload_n 2, 1) := by decide +kernel
theorem dX8_part_19 : decode cX8_part 19 = .ok (.iastore, 1) := by decide +kernel
theorem dX8_part_20 : decode cX8_part 20 = .ok (.aload_n 0, 1) := by decide +kernel
theorem dX8_part_21 : decode cX8_part 21 = .ok (.getfield 91, 3) := by decide +kernel
theorem dX8_part_24 : decode cX8_part 24 = .ok (.aload_n 0, 1) := by decide +kernel
theorem dX8_part_25 : decode cX8_part 25 = .ok (.getfield 142, 3) := by decide +kernel
theorem dX8_part_28 : decode cX8_part 28 = .ok (.iload_n 3, 1) := by decide +kernel
theorem dX8_part_29 : decode cX8_part 29 = .ok (.iastore, 1) := by decide +kernel
theorem dX8_part_30 : decode cX8_part 30 = .ok (.aload_n 0, 1) := by decide +kernel
theorem dX8_part_31 : decode cX8_part 31 = .ok (.dup, 1) := by decide +kernel
theorem dX8_part_32 : decode cX8_part 32 = .ok (.getfield 142, 3) := by decide +kernel
theorem dX8_part_35 : decode cX8_part 35 = .ok (.iconst 1, 1) := by decide +kernel
theorem dX8_part_36 : decode cX8_part 36 = .ok (.iadd, 1) := by decide +kernel
theorem dX8_part_37 : decode cX8_part 37 = .ok (.putfield 142, 3) := by decide +kernel
theorem dX8_part_40 : decode cX8_part 40 = .ok (.aload_n 0, 1) := by decide +kernel
theorem dX8_part_41 : decode cX8_part 41 = .ok (.getfield 142, 3) := by decide +kernel
theorem dX8_part_44 : decode cX8_part 44 = .ok (.iconst 1, 1) := by decide +kernel
theorem dX8_part_45 : decode cX8_part 45 = .ok (.isub, 1) := by decide +kernel
theorem dX8_part_46 : decode cX8_part 46 = .ok (.ireturn, 1) := by decide +kernel
theorem dX8_here_0 : decode cX8_here 0 = .ok (.aload_n 0, 1) := by decide +kernel
theorem dX8_here_1 : decode cX8_here 1 = .ok (.getfield 145, 3) := by decide +kernel
theorem dX8_here_4 : decode cX8_here 4 = .ok (.aload_n 0, 1) := by decide +kernel
theorem dX8_here_5 : decode cX8_here 5 = .ok (.getfield 116, 3) := by decide +kernel
theorem dX8_here_8 : decode cX8_here 8 = .ok (.if_icmp .ge 30, 3) := by decide +kernel
theorem dX8_here_11 : decode cX8_here 11 = .ok (.aload_n 0, 1) := by decide +kernel
theorem dX8_here_12 : decode cX8_here 12 = .ok (.getfield 9, 3) := by decide +kernel
theorem dX8_here_15 : decode cX8_here 15 = .ok (.aload_n 0, 1) := by decide +kernel
theorem dX8_here_16 : decode cX8_here 16 = .ok (.getfield 145, 3) := by decide +kernel
theorem dX8_here_19 : decode cX8_here 19 = .ok (.iaload, 1) := by decide +kernel
theorem dX8_here_20 : decode cX8_here 20 = .ok (.bipush 32, 2) := by decide +kernel
theorem dX8_here_22 : decode cX8_here 22 = .ok (.if_icmp .ne 16, 3) := by decide +kernel
theorem dX8_here_25 : decode cX8_here 25 = .ok (.aload_n 0, 1) := by decide +kernel
theorem dX8_here_26 : decode cX8_here 26 = .ok (.dup, 1) := by decide +kernel
theorem dX8_here_27 : decode cX8_here 27 = .ok (.getfield 145, 3) := by decide +kernel
theorem dX8_here_30 : decode cX8_here 30 = .ok (.iconst 1, 1) := by decide +kernel
theorem dX8_here_31 : decode cX8_here 31 = .ok (.iadd, 1) := by decide +kernel
theorem dX8_here_32 : decode cX8_here 32 = .ok (.putfield 145, 3) := by decide +kernel
theorem dX8_here_35 : decode cX8_here 35 = .ok (.goto (-35), 3) := by decide +kernel
theorem dX8_here_38 : decode cX8_here 38 = .ok (.aload_n 0, 1) := by decide +kernel
theorem dX8_here_39 : decode cX8_here 39 = .ok (.getfield 145, 3) := by decide +kernel
theorem dX8_here_42 : decode cX8_here 42 = .ok (.aload_n 0, 1) := by decide +kernel
theorem dX8_here_43 : decode cX8_here 43 = .ok (.getfield 116, 3) := by decide +kernel
theorem dX8_here_46 : decode cX8_here 46 = .ok (.if_icmp .ge 15, 3) := by decide +kernel
theorem dX8_here_49 : decode cX8_here 49 = .ok (.aload_n 0, 1) := by decide +kernel
theorem dX8_here_50 : decode cX8_here 50 = .ok (.getfield 9, 3) := by decide +kernel
theorem dX8_here_53 : decode cX8_here 53 = .ok (.aload_n 0, 1) := by decide +kernel
theorem dX8_here_54 : decode cX8_here 54 = .ok (.getfield 145, 3) := by decide +kernel
theorem dX8_here_57 : decode cX8_here 57 = .ok (.iaload, 1) := by decide +kernel
theorem dX8_here_58 : decode cX8_here 58 = .ok (.goto 4, 3) := by decide +kernel
theorem dX8_here_61 : decode cX8_here 61 = .ok (.iconst (-1), 1) := by decide +kernel
theorem dX8_here_62 : decode cX8_here 62 = .ok (.ireturn, 1) := by decide +kernel
theorem dX8_takes_0 : decode cX8_takes 0 = .ok (.aload_n 0, 1) := by decide +kernel
theorem dX8_takes_1 : decode cX8_takes 1 = .ok (.invokevirtual 148, 3) := by decide +kernel
theorem dX8_takes_4 : decode cX8_takes 4 = .ok (.iload_n 1, 1) := by decide +kernel
theorem dX8_takes_5 : decode cX8_takes 5 = .ok (.if_icmp .eq 5, 3) := by decide +kernel
theorem dX8_takes_8 : decode cX8_takes 8 = .ok (.iconst 0, 1) := by decide +kernel
theorem dX8_takes_9 : decode cX8_takes 9 = .ok (.ireturn, 1) := by decide +kernel
theorem dX8_takes_10 : decode cX8_takes 10 = .ok (.aload_n 0, 1) := by decide +kernel
theorem dX8_takes_11 : decode cX8_takes 11 = .ok (.dup, 1) := by decide +kernel
theorem dX8_takes_12 : decode cX8_takes 12 = .ok (.getfield 145, 3) := by decide +kernel
theorem dX8_takes_15 : decode cX8_takes 15 = .ok (.iconst 1, 1) := by decide +kernel
theorem dX8_takes_16 : decode cX8_takes 16 = .ok (.iadd, 1) := by decide +kernel
theorem dX8_takes_17 : decode cX8_takes 17 = .ok (.putfield 145, 3) := by decide +kernel
theorem dX8_takes_20 : decode cX8_takes 20 = .ok (.iconst 1, 1) := by decide +kernel
theorem dX8_takes_21 : decode cX8_takes 21 = .ok (.ireturn, 1) := by decide +kernel
theorem dX8_form_0 : decode cX8_form 0 = .ok (.aload_n 0, 1) := by decide +kernel
theorem dX8_form_1 : decode cX8_form 1 = .ok (.invokevirtual 148, 3) := by decide +kernel
theorem dX8_form_4 : decode cX8_form 4 = .ok (.pop, 1) := by decide +kernel
theorem dX8_form_5 : decode cX8_form 5 = .ok (.iload_n 1, 1) := by decide +kernel
theorem dX8_form_6 : decode cX8_form 6 = .ok (.bipush 10, 2) := by decide +kernel
theorem dX8_form_8 : decode cX8_form 8 = .ok (.if_icmp .le 5, 3) := by decide +kernel
theorem dX8_form_11 : decode cX8_form 11 = .ok (.iconst (-1), 1) := by decide +kernel
theorem dX8_form_12 : decode cX8_form 12 = .ok (.ireturn, 1) := by decide +kernel
theorem dX8_form_13 : decode cX8_form 13 = .ok (.aload_n 0, 1) := by decide +kernel
theorem dX8_form_14 : decode cX8_form 14 = .ok (.iload_n 1, 1) := by decide +kernel
theorem dX8_form_15 : decode cX8_form 15 = .ok (.iconst 4, 1) := by decide +kernel
theorem dX8_form_16 : decode cX8_form 16 = .ok (.invokevirtual 152, 3) := by decide +kernel
theorem dX8_form_19 : decode cX8_form 19 = .ok (.istore_n 2, 1) := by decide +kernel
theorem dX8_form_20 : decode cX8_form 20 = .ok (.iload_n 2, 1) := by decide +kernel
theorem dX8_form_21 : decode cX8_form 21 = .ok (.iconst (-1), 1) := by decide +kernel
theorem dX8_form_22 : decode cX8_form 22 = .ok (.if_icmp .eq 12, 3) := by decide +kernel
theorem dX8_form_25 : decode cX8_form 25 = .ok (.aload_n 0, 1) := by decide +kernel
theorem dX8_form_26 : decode cX8_form 26 = .ok (.bipush 62, 2) := by decide +kernel
theorem dX8_form_28 : decode cX8_form 28 = .ok (.invokevirtual 155, 3) := by decide +kernel
theorem dX8_form_31 : decode cX8_form 31 = .ok (.ifCond .ne 5, 3) := by decide +kernel
theorem dX8_form_34 : decode cX8_form 34 = .ok (.iload_n 2, 1) := by decide +kernel
theorem dX8_form_35 : decode cX8_form 35 = .ok (.ireturn, 1) := by decide +kernel
theorem dX8_form_36 : decode cX8_form 36 = .ok (.aload_n 0, 1) := by decide +kernel
theorem dX8_form_37 : decode cX8_form 37 = .ok (.iload_n 1, 1) := by decide +kernel
theorem dX8_form_38 : decode cX8_form 38 = .ok (.iconst 1, 1) := by decide +kernel
theorem dX8_form_39 : decode cX8_form 39 = .ok (.iadd, 1) := by decide +kernel
theorem dX8_form_40 : decode cX8_form 40 = .ok (.invokevirtual 159, 3) := by decide +kernel
theorem dX8_form_43 : decode cX8_form 43 = .ok (.istore_n 3, 1) := by decide +kernel
theorem dX8_form_44 : decode cX8_form 44 = .ok (.iload_n 3, 1) := by decide +kernel
theorem dX8_form_45 : decode cX8_form 45 = .ok (.iconst (-1), 1) := by decide +kernel
theorem dX8_form_46 : decode cX8_form 46 = .ok (.if_icmp .ne 7, 3) := by decide +kernel
theorem dX8_form_49 : decode cX8_form 49 = .ok (.iconst (-1), 1) := by decide +kernel
theorem dX8_form_50 : decode cX8_form 50 = .ok (.goto 10, 3) := by decide +kernel
theorem dX8_form_53 : decode cX8_form 53 = .ok (.aload_n 0, 1) := by decide +kernel
theorem dX8_form_54 : decode cX8_form 54 = .ok (.iconst 5, 1) := by decide +kernel
theorem dX8_form_55 : decode cX8_form 55 = .ok (.iload_n 2, 1) := by decide +kernel
theorem dX8_form_56 : decode cX8_form 56 = .ok (.iload_n 3, 1) := by decide +kernel
theorem dX8_form_57 : decode cX8_form 57 = .ok (.invokevirtual 162, 3) := by decide +kernel
theorem dX8_form_60 : decode cX8_form 60 = .ok (.ireturn, 1) := by decide +kernel
theorem dX8_row_0 : decode cX8_row 0 = .ok (.iload_n 2, 1) := by decide +kernel
theorem dX8_row_1 : decode cX8_row 1 = .ok (.iconst 4, 1) := by decide +kernel
theorem dX8_row_2 : decode cX8_row 2 = .ok (.if_icmp .ne 12, 3) := by decide +kernel
theorem dX8_row_5 : decode cX8_row 5 = .ok (.aload_n 0, 1) := by decide +kernel
theorem dX8_row_6 : decode cX8_row 6 = .ok (.iload_n 1, 1) := by decide +kernel
theorem dX8_row_7 : decode cX8_row 7 = .ok (.iconst 3, 1) := by decide +kernel
theorem dX8_row_8 : decode cX8_row 8 = .ok (.invokevirtual 152, 3) := by decide +kernel
theorem dX8_row_11 : decode cX8_row 11 = .ok (.goto 8, 3) := by decide +kernel
theorem dX8_row_14 : decode cX8_row 14 = .ok (.aload_n 0, 1) := by decide +kernel
theorem dX8_row_15 : decode cX8_row 15 = .ok (.iload_n 1, 1) := by decide +kernel
theorem dX8_row_16 : decode cX8_row 16 = .ok (.invokevirtual 165, 3) := by decide +kernel
theorem dX8_row_19 : decode cX8_row 19 = .ok (.istore_n 3, 1) := by decide +kernel
theorem dX8_row_20 : decode cX8_row 20 = .ok (.iload_n 3, 1) := by decide +kernel
theorem dX8_row_21 : decode cX8_row 21 = .ok (.iconst (-1), 1) := by decide +kernel
theorem dX8_row_22 : decode cX8_row 22 = .ok (.if_icmp .eq 65, 3) := by decide +kernel
theorem dX8_row_25 : decode cX8_row 25 = .ok (.aload_n 0, 1) := by decide +kernel
theorem dX8_row_26 : decode cX8_row 26 = .ok (.iload_n 2, 1) := by decide +kernel
theorem dX8_row_27 : decode cX8_row 27 = .ok (.iconst 4, 1) := by decide +kernel
theorem dX8_row_28 : decode cX8_row 28 = .ok (.if_icmp .ne 8, 3) := by decide +kernel
theorem dX8_row_31 : decode cX8_row 31 = .ok (.bipush 124, 2) := by decide +kernel
theorem dX8_row_33 : decode cX8_row 33 = .ok (.goto 5, 3) := by decide +kernel
theorem dX8_row_36 : decode cX8_row 36 = .ok (.bipush 38, 2) := by decide +kernel
theorem dX8_row_38 : decode cX8_row 38 = .ok (.invokevirtual 155, 3) := by decide +kernel
theorem dX8_row_41 : decode cX8_row 41 = .ok (.ifCond .eq 46, 3) := by decide +kernel
theorem dX8_row_44 : decode cX8_row 44 = .ok (.iload_n 2, 1) := by decide +kernel
theorem dX8_row_45 : decode cX8_row 45 = .ok (.iconst 4, 1) := by decide +kernel
theorem dX8_row_46 : decode cX8_row 46 = .ok (.if_icmp .ne 12, 3) := by decide +kernel
theorem dX8_row_49 : decode cX8_row 49 = .ok (.aload_n 0, 1) := by decide +kernel
theorem dX8_row_50 : decode cX8_row 50 = .ok (.iload_n 1, 1) := by decide +kernel
theorem dX8_row_51 : decode cX8_row 51 = .ok (.iconst 3, 1) := by decide +kernel
theorem dX8_row_52 : decode cX8_row 52 = .ok (.invokevirtual 152, 3) := by decide +kernel
theorem dX8_row_55 : decode cX8_row 55 = .ok (.goto 8, 3) := by decide +kernel
theorem dX8_row_58 : decode cX8_row 58 = .ok (.aload_n 0, 1) := by decide +kernel
theorem dX8_row_59 : decode cX8_row 59 = .ok (.iload_n 1, 1) := by decide +kernel
theorem dX8_row_60 : decode cX8_row 60 = .ok (.invokevirtual 165, 3) := by decide +kernel
theorem dX8_row_63 : decode cX8_row 63 = .ok (.istore 4, 2) := by decide +kernel
theorem dX8_row_65 : decode cX8_row 65 = .ok (.iload 4, 2) := by decide +kernel
theorem dX8_row_67 : decode cX8_row 67 = .ok (.iconst (-1), 1) := by decide +kernel
theorem dX8_row_68 : decode cX8_row 68 = .ok (.if_icmp .ne 7, 3) := by decide +kernel
theorem dX8_row_71 : decode cX8_row 71 = .ok (.iconst (-1), 1) := by decide +kernel
theorem dX8_row_72 : decode cX8_row 72 = .ok (.goto 11, 3) := by decide +kernel
theorem dX8_row_75 : decode cX8_row 75 = .ok (.aload_n 0, 1) := by decide +kernel
theorem dX8_row_76 : decode cX8_row 76 = .ok (.iload_n 2, 1) := by decide +kernel
theorem dX8_row_77 : decode cX8_row 77 = .ok (.iload_n 3, 1) := by decide +kernel
theorem dX8_row_78 : decode cX8_row 78 = .ok (.iload 4, 2) := by decide +kernel
theorem dX8_row_80 : decode cX8_row 80 = .ok (.invokevirtual 162, 3) := by decide +kernel
theorem dX8_row_83 : decode cX8_row 83 = .ok (.istore_n 3, 1) := by decide +kernel
theorem dX8_row_84 : decode cX8_row 84 = .ok (.goto (-64), 3) := by decide +kernel
theorem dX8_row_87 : decode cX8_row 87 = .ok (.iload_n 3, 1) := by decide +kernel
theorem dX8_row_88 : decode cX8_row 88 = .ok (.ireturn, 1) := by decide +kernel
theorem dX8_plain_0 : decode cX8_plain 0 = .ok (.aload_n 0, 1) := by decide +kernel
theorem dX8_plain_1 : decode cX8_plain 1 = .ok (.invokevirtual 148, 3) := by decide +kernel
theorem dX8_plain_4 : decode cX8_plain 4 = .ok (.istore_n 2, 1) := by decide +kernel
theorem dX8_plain_5 : decode cX8_plain 5 = .ok (.iload_n 1, 1) := by decide +kernel
theorem dX8_plain_6 : decode cX8_plain 6 = .ok (.bipush 10, 2) := by decide +kernel
theorem dX8_plain_8 : decode cX8_plain 8 = .ok (.if_icmp .le 5, 3) := by decide +kernel
theorem dX8_plain_11 : decode cX8_plain 11 = .ok (.iconst (-1), 1) := by decide +kernel
theorem dX8_plain_12 : decode cX8_plain 12 = .ok (.ireturn, 1) := by decide +kernel
theorem dX8_plain_13 : decode cX8_plain 13 = .ok (.iload_n 2, 1) := by decide +kernel
theorem dX8_plain_14 : decode cX8_plain 14 = .ok (.bipush 97, 2) := by decide +kernel
theorem dX8_plain_16 : decode cX8_plain 16 = .ok (.bipush 104, 2) := by decide +kernel
theorem dX8_plain_18 : decode cX8_plain 18 = .ok (.invokestatic 112, 3) := by decide +kernel
theorem dX8_plain_21 : decode cX8_plain 21 = .ok (.ifCond .eq 24, 3) := by decide +kernel
theorem dX8_plain_24 : decode cX8_plain 24 = .ok (.aload_n 0, 1) := by decide +kernel
theorem dX8_plain_25 : decode cX8_plain 25 = .ok (.dup, 1) := by decide +kernel
theorem dX8_plain_26 : decode cX8_plain 26 = .ok (.getfield 145, 3) := by decide +kernel
theorem dX8_plain_29 : decode cX8_plain 29 = .ok (.iconst 1, 1) := by decide +kernel
theorem dX8_plain_30 : decode cX8_plain 30 = .ok (.iadd, 1) := by decide +kernel
theorem dX8_plain_31 : decode cX8_plain 31 = .ok (.putfield 145, 3) := by decide +kernel
theorem dX8_plain_34 : decode cX8_plain 34 = .ok (.aload_n 0, 1) := by decide +kernel
theorem dX8_plain_35 : decode cX8_plain 35 = .ok (.iconst 0, 1) := by decide +kernel
theorem dX8_plain_36 : decode cX8_plain 36 = .ok (.iload_n 2, 1) := by decide +kernel
theorem dX8_plain_37 : decode cX8_plain 37 = .ok (.bipush 97, 2) := by decide +kernel
theorem dX8_plain_39 : decode cX8_plain 39 = .ok (.isub, 1) := by decide +kernel
theorem dX8_plain_40 : decode cX8_plain 40 = .ok (.iconst (-1), 1) := by decide +kernel
theorem dX8_plain_41 : decode cX8_plain 41 = .ok (.invokevirtual 162, 3) := by decide +kernel
theorem dX8_plain_44 : decode cX8_plain 44 = .ok (.ireturn, 1) := by decide +kernel
theorem dX8_plain_45 : decode cX8_plain 45 = .ok (.aload_n 0, 1) := by decide +kernel
theorem dX8_plain_46 : decode cX8_plain 46 = .ok (.bipush 35, 2) := by decide +kernel
theorem dX8_plain_48 : decode cX8_plain 48 = .ok (.invokevirtual 155, 3) := by decide +kernel
theorem dX8_plain_51 : decode cX8_plain 51 = .ok (.ifCond .eq 11, 3) := by decide +kernel
theorem dX8_plain_54 : decode cX8_plain 54 = .ok (.aload_n 0, 1) := by decide +kernel
theorem dX8_plain_55 : decode cX8_plain 55 = .ok (.iconst 1, 1) := by decide +kernel
theorem dX8_plain_56 : decode cX8_plain 56 = .ok (.iconst (-1), 1) := by decide +kernel
theorem dX8_plain_57 : decode cX8_plain 57 = .ok (.iconst (-1), 1) := by decide +kernel
theorem dX8_plain_58 : decode cX8_plain 58 = .ok (.invokevirtual 162, 3) := by decide +kernel
theorem dX8_plain_61 : decode cX8_plain 61 = .ok (.ireturn, 1) := by decide +kernel
theorem dX8_plain_62 : decode cX8_plain 62 = .ok (.aload_n 0, 1) := by decide +kernel
theorem dX8_plain_63 : decode cX8_plain 63 = .ok (.bipush 45, 2) := by decide +kernel
theorem dX8_plain_65 : decode cX8_plain 65 = .ok (.invokevirtual 155, 3) := by decide +kernel
theorem dX8_plain_68 : decode cX8_plain 68 = .ok (.ifCond .eq 28, 3) := by decide +kernel
theorem dX8_plain_71 : decode cX8_plain 71 = .ok (.aload_n 0, 1) := by decide +kernel
theorem dX8_plain_72 : decode cX8_plain 72 = .ok (.iload_n 1, 1) := by decide +kernel
theorem dX8_plain_73 : decode cX8_plain 73 = .ok (.iconst 1, 1) := by decide +kernel
theorem dX8_plain_74 : decode cX8_plain 74 = .ok (.iadd, 1) := by decide +kernel
theorem dX8_plain_75 : decode cX8_plain 75 = .ok (.invokevirtual 165, 3) := by decide +kernel
theorem dX8_plain_78 : decode cX8_plain 78 = .ok (.istore_n 3, 1) := by decide +kernel
theorem dX8_plain_79 : decode cX8_plain 79 = .ok (.iload_n 3, 1) := by decide +kernel
theorem dX8_plain_80 : decode cX8_plain 80 = .ok (.iconst (-1), 1) := by decide +kernel
theorem dX8_plain_81 : decode cX8_plain 81 = .ok (.if_icmp .ne 7, 3) := by decide +kernel
theorem dX8_plain_84 : decode cX8_plain 84 = .ok (.iconst (-1), 1) := by decide +kernel
theorem dX8_plain_85 : decode cX8_plain 85 = .ok (.goto 10, 3) := by decide +kernel
theorem dX8_plain_88 : decode cX8_plain 88 = .ok (.aload_n 0, 1) := by decide +kernel
theorem dX8_plain_89 : decode cX8_plain 89 = .ok (.iconst 2, 1) := by decide +kernel
theorem dX8_plain_90 : decode cX8_plain 90 = .ok (.iload_n 3, 1) := by decide +kernel
theorem dX8_plain_91 : decode cX8_plain 91 = .ok (.iconst (-1), 1) := by decide +kernel
theorem dX8_plain_92 : decode cX8_plain 92 = .ok (.invokevirtual 162, 3) := by decide +kernel
theorem dX8_plain_95 : decode cX8_plain 95 = .ok (.ireturn, 1) := by decide +kernel
theorem dX8_plain_96 : decode cX8_plain 96 = .ok (.aload_n 0, 1) := by decide +kernel
theorem dX8_plain_97 : decode cX8_plain 97 = .ok (.bipush 40, 2) := by decide +kernel
theorem dX8_plain_99 : decode cX8_plain 99 = .ok (.invokevirtual 155, 3) := by decide +kernel
theorem dX8_plain_102 : decode cX8_plain 102 = .ok (.ifCond .ne 5, 3) := by decide +kernel
theorem dX8_plain_105 : decode cX8_plain 105 = .ok (.iconst (-1), 1) := by decide +kernel
theorem dX8_plain_106 : decode cX8_plain 106 = .ok (.ireturn, 1) := by decide +kernel
theorem dX8_plain_107 : decode cX8_plain 107 = .ok (.aload_n 0, 1) := by decide +kernel
theorem dX8_plain_108 : decode cX8_plain 108 = .ok (.iload_n 1, 1) := by decide +kernel
theorem dX8_plain_109 : decode cX8_plain 109 = .ok (.iconst 1, 1) := by decide +kernel
theorem dX8_plain_110 : decode cX8_plain 110 = .ok (.iadd, 1) := by decide +kernel
theorem dX8_plain_111 : decode cX8_plain 111 = .ok (.invokevirtual 159, 3) := by decide +kernel
theorem dX8_plain_114 : decode cX8_plain 114 = .ok (.istore_n 3, 1) := by decide +kernel
theorem dX8_plain_115 : decode cX8_plain 115 = .ok (.iload_n 3, 1) := by decide +kernel
theorem dX8_plain_116 : decode cX8_plain 116 = .ok (.iconst (-1), 1) := by decide +kernel
theorem dX8_plain_117 : decode cX8_plain 117 = .ok (.if_icmp .eq 16, 3) := by decide +kernel
theorem dX8_plain_120 : decode cX8_plain 120 = .ok (.aload_n 0, 1) := by decide +kernel
theorem dX8_plain_121 : decode cX8_plain 121 = .ok (.bipush 41, 2) := by decide +kernel
theorem dX8_plain_123 : decode cX8_plain 123 = .ok (.invokevirtual 155, 3) := by decide +kernel
theorem dX8_plain_126 : decode cX8_plain 126 = .ok (.ifCond .eq 7, 3) := by decide +kernel
theorem dX8_plain_129 : decode cX8_plain 129 = .ok (.iload_n 3, 1) := by decide +kernel
theorem dX8_plain_130 : decode cX8_plain 130 = .ok (.goto 4, 3) := by decide +kernel
theorem dX8_plain_133 : decode cX8_plain 133 = .ok (.iconst (-1), 1) := by decide +kernel
theorem dX8_plain_134 : decode cX8_plain 134 = .ok (.ireturn, 1) := by decide +kernel
theorem dX8_read_0 : decode cX8_read 0 = .ok (.aload_n 0, 1) := by decide +kernel
theorem dX8_read_1 : decode cX8_read 1 = .ok (.iconst 0, 1) := by decide +kernel
theorem dX8_read_2 : decode cX8_read 2 = .ok (.putfield 106, 3) := by decide +kernel
theorem dX8_read_5 : decode cX8_read 5 = .ok (.aload_n 0, 1) := by decide +kernel
theorem dX8_read_6 : decode cX8_read 6 = .ok (.iconst (-1), 1) := by decide +kernel
theorem dX8_read_7 : decode cX8_read 7 = .ok (.putfield 13, 3) := by decide +kernel
theorem dX8_read_10 : decode cX8_read 10 = .ok (.aload_n 0, 1) := by decide +kernel
theorem dX8_read_11 : decode cX8_read 11 = .ok (.iconst 0, 1) := by decide +kernel
theorem dX8_read_12 : decode cX8_read 12 = .ok (.putfield 145, 3) := by decide +kernel
theorem dX8_read_15 : decode cX8_read 15 = .ok (.aload_n 0, 1) := by decide +kernel
theorem dX8_read_16 : decode cX8_read 16 = .ok (.iconst 0, 1) := by decide +kernel
theorem dX8_read_17 : decode cX8_read 17 = .ok (.putfield 142, 3) := by decide +kernel
theorem dX8_read_20 : decode cX8_read 20 = .ok (.aload_n 0, 1) := by decide +kernel
theorem dX8_read_21 : decode cX8_read 21 = .ok (.iconst 0, 1) := by decide +kernel
theorem dX8_read_22 : decode cX8_read 22 = .ok (.invokevirtual 159, 3) := by decide +kernel
theorem dX8_read_25 : decode cX8_read 25 = .ok (.istore_n 1, 1) := by decide +kernel
theorem dX8_read_26 : decode cX8_read 26 = .ok (.iload_n 1, 1) := by decide +kernel
theorem dX8_read_27 : decode cX8_read 27 = .ok (.iconst (-1), 1) := by decide +kernel
theorem dX8_read_28 : decode cX8_read 28 = .ok (.if_icmp .eq 11, 3) := by decide +kernel
theorem dX8_read_31 : decode cX8_read 31 = .ok (.aload_n 0, 1) := by decide +kernel
theorem dX8_read_32 : decode cX8_read 32 = .ok (.invokevirtual 148, 3) := by decide +kernel
theorem dX8_read_35 : decode cX8_read 35 = .ok (.iconst (-1), 1) := by decide +kernel
theorem dX8_read_36 : decode cX8_read 36 = .ok (.if_icmp .eq 18, 3) := by decide +kernel
theorem dX8_read_39 : decode cX8_read 39 = .ok (.aload_n 0, 1) := by decide +kernel
theorem dX8_read_40 : decode cX8_read 40 = .ok (.aload_n 0, 1) := by decide +kernel
theorem dX8_read_41 : decode cX8_read 41 = .ok (.getfield 145, 3) := by decide +kernel
theorem dX8_read_44 : decode cX8_read 44 = .ok (.putfield 13, 3) := by decide +kernel
theorem dX8_read_47 : decode cX8_read 47 = .ok (.aload_n 0, 1) := by decide +kernel
theorem dX8_read_48 : decode cX8_read 48 = .ok (.iconst 0, 1) := by decide +kernel
theorem dX8_read_49 : decode cX8_read 49 = .ok (.putfield 116, 3) := by decide +kernel
theorem dX8_read_52 : decode cX8_read 52 = .ok (.iconst (-1), 1) := by decide +kernel
theorem dX8_read_53 : decode cX8_read 53 = .ok (.ireturn, 1) := by decide +kernel
theorem dX8_read_54 : decode cX8_read 54 = .ok (.aload_n 0, 1) := by decide +kernel
theorem dX8_read_55 : decode cX8_read 55 = .ok (.iconst 0, 1) := by decide +kernel
theorem dX8_read_56 : decode cX8_read 56 = .ok (.putfield 116, 3) := by decide +kernel
theorem dX8_read_59 : decode cX8_read 59 = .ok (.aload_n 0, 1) := by decide +kernel
theorem dX8_read_60 : decode cX8_read 60 = .ok (.getfield 109, 3) := by decide +kernel
theorem dX8_read_63 : decode cX8_read 63 = .ok (.istore_n 2, 1) := by decide +kernel
theorem dX8_read_64 : decode cX8_read 64 = .ok (.sipush 400, 3) := by decide +kernel
theorem dX8_read_67 : decode cX8_read 67 = .ok (.newarray .int, 2) := by decide +kernel
theorem dX8_read_69 : decode cX8_read 69 = .ok (.astore_n 3, 1) := by decide +kernel
theorem dX8_read_70 : decode cX8_read 70 = .ok (.iconst 0, 1) := by decide +kernel
theorem dX8_read_71 : decode cX8_read 71 = .ok (.istore 4, 2) := by decide +kernel
theorem dX8_read_73 : decode cX8_read 73 = .ok (.iload 4, 2) := by decide +kernel
theorem dX8_read_75 : decode cX8_read 75 = .ok (.aload_n 0, 1) := by decide +kernel
theorem dX8_read_76 : decode cX8_read 76 = .ok (.getfield 142, 3) := by decide +kernel
theorem dX8_read_79 : decode cX8_read 79 = .ok (.if_icmp .ge 134, 3) := by decide +kernel
theorem dX8_read_82 : decode cX8_read 82 = .ok (.aload_n 0, 1) := by decide +kernel
theorem dX8_read_83 : decode cX8_read 83 = .ok (.getfield 85, 3) := by decide +kernel
theorem dX8_read_86 : decode cX8_read 86 = .ok (.iload 4, 2) := by decide +kernel
theorem dX8_read_88 : decode cX8_read 88 = .ok (.iaload, 1) := by decide +kernel
theorem dX8_read_89 : decode cX8_read 89 = .ok (.iconst 2, 1) := by decide +kernel
theorem dX8_read_90 : decode cX8_read 90 = .ok (.if_icmp .lt 7, 3) := by decide +kernel
theorem dX8_read_93 : decode cX8_read 93 = .ok (.iconst 1, 1) := by decide +kernel
theorem dX8_read_94 : decode cX8_read 94 = .ok (.goto 4, 3) := by decide +kernel
theorem dX8_read_97 : decode cX8_read 97 = .ok (.iconst 0, 1) := by decide +kernel
theorem dX8_read_98 : decode cX8_read 98 = .ok (.istore 5, 2) := by decide +kernel
theorem dX8_read_100 : decode cX8_read 100 = .ok (.aload_n 0, 1) := by decide +kernel
theorem dX8_read_101 : decode cX8_read 101 = .ok (.getfield 85, 3) := by decide +kernel
theorem dX8_read_104 : decode cX8_read 104 = .ok (.iload 4, 2) := by decide +kernel
theorem dX8_read_106 : decode cX8_read 106 = .ok (.iaload, 1) := by decide +kernel
theorem dX8_read_107 : decode cX8_read 107 = .ok (.ifCond .ne 13, 3) := by decide +kernel
theorem dX8_read_110 : decode cX8_read 110 = .ok (.aload_n 0, 1) := by decide +kernel
theorem dX8_read_111 : decode cX8_read 111 = .ok (.getfield 88, 3) := by decide +kernel
theorem dX8_read_114 : decode cX8_read 114 = .ok (.iload 4, 2) := by decide +kernel
theorem dX8_read_116 : decode cX8_read 116 = .ok (.iaload, 1) := by decide +kernel
theorem dX8_read_117 : decode cX8_read 117 = .ok (.goto 21, 3) := by decide +kernel
theorem dX8_read_120 : decode cX8_read 120 = .ok (.iload 5, 2) := by decide +kernel
theorem dX8_read_122 : decode cX8_read 122 = .ok (.ifCond .eq 15, 3) := by decide +kernel
theorem dX8_read_125 : decode cX8_read 125 = .ok (.aload_n 3, 1) := by decide +kernel
theorem dX8_read_126 : decode cX8_read 126 = .ok (.aload_n 0, 1) := by decide +kernel
theorem dX8_read_127 : decode cX8_read 127 = .ok (.getfield 88, 3) := by decide +kernel
theorem dX8_read_130 : decode cX8_read 130 = .ok (.iload 4, 2) := by decide +kernel
theorem dX8_read_132 : decode cX8_read 132 = .ok (.iaload, 1) := by decide +kernel
theorem dX8_read_133 : decode cX8_read 133 = .ok (.iaload, 1) := by decide +kernel
theorem dX8_read_134 : decode cX8_read 134 = .ok (.goto 4, 3) := by decide +kernel
theorem dX8_read_137 : decode cX8_read 137 = .ok (.iconst (-1), 1) := by decide +kernel
theorem dX8_read_138 : decode cX8_read 138 = .ok (.istore 6, 2) := by decide +kernel
theorem dX8_read_140 : decode cX8_read 140 = .ok (.aload_n 3, 1) := by decide +kernel
theorem dX8_read_141 : decode cX8_read 141 = .ok (.iload 4, 2) := by decide +kernel
theorem dX8_read_143 : decode cX8_read 143 = .ok (.aload_n 0, 1) := by decide +kernel
theorem dX8_read_144 : decode cX8_read 144 = .ok (.aload_n 0, 1) := by decide +kernel
theorem dX8_read_145 : decode cX8_read 145 = .ok (.getfield 85, 3) := by decide +kernel
theorem dX8_read_148 : decode cX8_read 148 = .ok (.iload 4, 2) := by decide +kernel
theorem dX8_read_150 : decode cX8_read 150 = .ok (.iaload, 1) := by decide +kernel
theorem dX8_read_151 : decode cX8_read 151 = .ok (.iload 6, 2) := by decide +kernel
theorem dX8_read_153 : decode cX8_read 153 = .ok (.iload 5, 2) := by decide +kernel
theorem dX8_read_155 : decode cX8_read 155 = .ok (.ifCond .eq 26, 3) := by decide +kernel
theorem dX8_read_158 : decode cX8_read 158 = .ok (.aload_n 0, 1) := by decide +kernel
theorem dX8_read_159 : decode cX8_read 159 = .ok (.getfield 91, 3) := by decide +kernel
theorem dX8_read_162 : decode cX8_read 162 = .ok (.iload 4, 2) := by decide +kernel
theorem dX8_read_164 : decode cX8_read 164 = .ok (.iaload, 1) := by decide +kernel
theorem dX8_read_165 : decode cX8_read 165 = .ok (.iconst (-1), 1) := by decide +kernel
theorem dX8_read_166 : decode cX8_read 166 = .ok (.if_icmp .eq 15, 3) := by decide +kernel
theorem dX8_read_169 : decode cX8_read 169 = .ok (.aload_n 3, 1) := by decide +kernel
theorem dX8_read_170 : decode cX8_read 170 = .ok (.aload_n 0, 1) := by decide +kernel
theorem dX8_read_171 : decode cX8_read 171 = .ok (.getfield 91, 3) := by decide +kernel
theorem dX8_read_174 : decode cX8_read 174 = .ok (.iload 4, 2) := by decide +kernel
theorem dX8_read_176 : decode cX8_read 176 = .ok (.iaload, 1) := by decide +kernel
theorem dX8_read_177 : decode cX8_read 177 = .ok (.iaload, 1) := by decide +kernel
theorem dX8_read_178 : decode cX8_read 178 = .ok (.goto 4, 3) := by decide +kernel
theorem dX8_read_181 : decode cX8_read 181 = .ok (.iconst (-1), 1) := by decide +kernel
theorem dX8_read_182 : decode cX8_read 182 = .ok (.invokevirtual 168, 3) := by decide +kernel
theorem dX8_read_185 : decode cX8_read 185 = .ok (.iastore, 1) := by decide +kernel
theorem dX8_read_186 : decode cX8_read 186 = .ok (.aload_n 3, 1) := by decide +kernel
theorem dX8_read_187 : decode cX8_read 187 = .ok (.iload 4, 2) := by decide +kernel
theorem dX8_read_189 : decode cX8_read 189 = .ok (.iaload, 1) := by decide +kernel
theorem dX8_read_190 : decode cX8_read 190 = .ok (.iconst (-1), 1) := by decide +kernel
theorem dX8_read_191 : decode cX8_read 191 = .ok (.if_icmp .ne 16, 3) := by decide +kernel
theorem dX8_read_194 : decode cX8_read 194 = .ok (.aload_n 0, 1) := by decide +kernel
theorem dX8_read_195 : decode cX8_read 195 = .ok (.iload_n 2, 1) := by decide +kernel
theorem dX8_read_196 : decode cX8_read 196 = .ok (.putfield 109, 3) := by decide +kernel
theorem dX8_read_199 : decode cX8_read 199 = .ok (.aload_n 0, 1) := by decide +kernel
theorem dX8_read_200 : decode cX8_read 200 = .ok (.iconst 0, 1) := by decide +kernel
theorem dX8_read_201 : decode cX8_read 201 = .ok (.putfield 13, 3) := by decide +kernel
theorem dX8_read_204 : decode cX8_read 204 = .ok (.bipush (-2), 2) := by decide +kernel
theorem dX8_read_206 : decode cX8_read 206 = .ok (.ireturn, 1) := by decide +kernel
theorem dX8_read_207 : decode cX8_read 207 = .ok (.iinc 4 1, 3) := by decide +kernel
theorem dX8_read_210 : decode cX8_read 210 = .ok (.goto (-137), 3) := by decide +kernel
theorem dX8_read_213 : decode cX8_read 213 = .ok (.aload_n 3, 1) := by decide +kernel
theorem dX8_read_214 : decode cX8_read 214 = .ok (.iload_n 1, 1) := by decide +kernel
theorem dX8_read_215 : decode cX8_read 215 = .ok (.iaload, 1) := by decide +kernel
theorem dX8_read_216 : decode cX8_read 216 = .ok (.ireturn, 1) := by decide +kernel
theorem dX8_errorAt_0 : decode cX8_errorAt 0 = .ok (.aload_n 0, 1) := by decide +kernel
theorem dX8_errorAt_1 : decode cX8_errorAt 1 = .ok (.iconst 0, 1) := by decide +kernel
theorem dX8_errorAt_2 : decode cX8_errorAt 2 = .ok (.putfield 106, 3) := by decide +kernel
theorem dX8_errorAt_5 : decode cX8_errorAt 5 = .ok (.aload_n 0, 1) := by decide +kernel
theorem dX8_errorAt_6 : decode cX8_errorAt 6 = .ok (.getfield 13, 3) := by decide +kernel
theorem dX8_errorAt_9 : decode cX8_errorAt 9 = .ok (.ireturn, 1) := by decide +kernel
theorem dX8_make_0 : decode cX8_make 0 = .ok (.aload_n 0, 1) := by decide +kernel
theorem dX8_make_1 : decode cX8_make 1 = .ok (.iconst 0, 1) := by decide +kernel
theorem dX8_make_2 : decode cX8_make 2 = .ok (.putfield 106, 3) := by decide +kernel
theorem dX8_make_5 : decode cX8_make 5 = .ok (.iload_n 1, 1) := by decide +kernel
theorem dX8_make_6 : decode cX8_make 6 = .ok (.iconst 0, 1) := by decide +kernel
theorem dX8_make_7 : decode cX8_make 7 = .ok (.iconst 5, 1) := by decide +kernel
theorem dX8_make_8 : decode cX8_make 8 = .ok (.invokestatic 112, 3) := by decide +kernel
theorem dX8_make_11 : decode cX8_make 11 = .ok (.ifCond .eq 17, 3) := by decide +kernel
theorem dX8_make_14 : decode cX8_make 14 = .ok (.iload_n 1, 1) := by decide +kernel
theorem dX8_make_15 : decode cX8_make 15 = .ok (.ifCond .ne 19, 3) := by decide +kernel
theorem dX8_make_18 : decode cX8_make 18 = .ok (.iload_n 2, 1) := by decide +kernel
theorem dX8_make_19 : decode cX8_make 19 = .ok (.iconst 0, 1) := by decide +kernel
theorem dX8_make_20 : decode cX8_make 20 = .ok (.bipush 7, 2) := by decide +kernel
theorem dX8_make_22 : decode cX8_make 22 = .ok (.invokestatic 112, 3) := by decide +kernel
theorem dX8_make_25 : decode cX8_make 25 = .ok (.ifCond .ne 9, 3) := by decide +kernel
theorem dX8_make_28 : decode cX8_make 28 = .ok (.aload_n 0, 1) := by decide +kernel
theorem dX8_make_29 : decode cX8_make 29 = .ok (.iconst 1, 1) := by decide +kernel
theorem dX8_make_30 : decode cX8_make 30 = .ok (.invokevirtual 119, 3) := by decide +kernel
theorem dX8_make_33 : decode cX8_make 33 = .ok (.ireturn, 1) := by decide +kernel
theorem dX8_make_34 : decode cX8_make 34 = .ok (.iload_n 1, 1) := by decide +kernel
theorem dX8_make_35 : decode cX8_make 35 = .ok (.iconst 2, 1) := by decide +kernel
theorem dX8_make_36 : decode cX8_make 36 = .ok (.if_icmp .lt 11, 3) := by decide +kernel
theorem dX8_make_39 : decode cX8_make 39 = .ok (.aload_n 0, 1) := by decide +kernel
theorem dX8_make_40 : decode cX8_make 40 = .ok (.iload_n 2, 1) := by decide +kernel
theorem dX8_make_41 : decode cX8_make 41 = .ok (.invokevirtual 171, 3) := by decide +kernel
theorem dX8_make_44 : decode cX8_make 44 = .ok (.ifCond .eq 16, 3) := by decide +kernel
theorem dX8_make_47 : decode cX8_make 47 = .ok (.iload_n 1, 1) := by decide +kernel
theorem dX8_make_48 : decode cX8_make 48 = .ok (.iconst 3, 1) := by decide +kernel
theorem dX8_make_49 : decode cX8_make 49 = .ok (.if_icmp .lt 17, 3) := by decide +kernel
theorem dX8_make_52 : decode cX8_make 52 = .ok (.aload_n 0, 1) := by decide +kernel
theorem dX8_make_53 : decode cX8_make 53 = .ok (.iload_n 3, 1) := by decide +kernel
theorem dX8_make_54 : decode cX8_make 54 = .ok (.invokevirtual 171, 3) := by decide +kernel
theorem dX8_make_57 : decode cX8_make 57 = .ok (.ifCond .ne 9, 3) := by decide +kernel
theorem dX8_make_60 : decode cX8_make 60 = .ok (.aload_n 0, 1) := by decide +kernel
theorem dX8_make_61 : decode cX8_make 61 = .ok (.iconst 2, 1) := by decide +kernel
theorem dX8_make_62 : decode cX8_make 62 = .ok (.invokevirtual 119, 3) := by decide +kernel
theorem dX8_make_65 : decode cX8_make 65 = .ok (.ireturn, 1) := by decide +kernel
theorem dX8_make_66 : decode cX8_make 66 = .ok (.aload_n 0, 1) := by decide +kernel
theorem dX8_make_67 : decode cX8_make 67 = .ok (.iload_n 1, 1) := by decide +kernel
theorem dX8_make_68 : decode cX8_make 68 = .ok (.iload_n 1, 1) := by decide +kernel
theorem dX8_make_69 : decode cX8_make 69 = .ok (.iconst 1, 1) := by decide +kernel
theorem dX8_make_70 : decode cX8_make 70 = .ok (.if_icmp .ne 7, 3) := by decide +kernel
theorem dX8_make_73 : decode cX8_make 73 = .ok (.iconst (-1), 1) := by decide +kernel
theorem dX8_make_74 : decode cX8_make 74 = .ok (.goto 4, 3) := by decide +kernel
theorem dX8_make_77 : decode cX8_make 77 = .ok (.iload_n 2, 1) := by decide +kernel
theorem dX8_make_78 : decode cX8_make 78 = .ok (.iload_n 1, 1) := by decide +kernel
theorem dX8_make_79 : decode cX8_make 79 = .ok (.iconst 3, 1) := by decide +kernel
theorem dX8_make_80 : decode cX8_make 80 = .ok (.if_icmp .lt 7, 3) := by decide +kernel
theorem dX8_make_83 : decode cX8_make 83 = .ok (.iload_n 3, 1) := by decide +kernel
theorem dX8_make_84 : decode cX8_make 84 = .ok (.goto 4, 3) := by decide +kernel
theorem dX8_make_87 : decode cX8_make 87 = .ok (.iconst (-1), 1) := by decide +kernel
theorem dX8_make_88 : decode cX8_make 88 = .ok (.invokevirtual 168, 3) := by decide +kernel
theorem dX8_make_91 : decode cX8_make 91 = .ok (.istore 4, 2) := by decide +kernel
theorem dX8_make_93 : decode cX8_make 93 = .ok (.iload 4, 2) := by decide +kernel
theorem dX8_make_95 : decode cX8_make 95 = .ok (.iconst (-1), 1) := by decide +kernel
theorem dX8_make_96 : decode cX8_make 96 = .ok (.if_icmp .ne 11, 3) := by decide +kernel
theorem dX8_make_99 : decode cX8_make 99 = .ok (.aload_n 0, 1) := by decide +kernel
theorem dX8_make_100 : decode cX8_make 100 = .ok (.iconst 3, 1) := by decide +kernel
theorem dX8_make_101 : decode cX8_make 101 = .ok (.invokevirtual 119, 3) := by decide +kernel
theorem dX8_make_104 : decode cX8_make 104 = .ok (.goto 5, 3) := by decide +kernel
theorem dX8_make_107 : decode cX8_make 107 = .ok (.iload 4, 2) := by decide +kernel
theorem dX8_make_109 : decode cX8_make 109 = .ok (.ireturn, 1) := by decide +kernel
theorem dX8_trueFor_0 : decode cX8_trueFor 0 = .ok (.iconst 0, 1) := by decide +kernel
theorem dX8_trueFor_1 : decode cX8_trueFor 1 = .ok (.istore_n 2, 1) := by decide +kernel
theorem dX8_trueFor_2 : decode cX8_trueFor 2 = .ok (.iconst 0, 1) := by decide +kernel
theorem dX8_trueFor_3 : decode cX8_trueFor 3 = .ok (.istore_n 3, 1) := by decide +kernel
theorem dX8_trueFor_4 : decode cX8_trueFor 4 = .ok (.iload_n 3, 1) := by decide +kernel
theorem dX8_trueFor_5 : decode cX8_trueFor 5 = .ok (.sipush 256, 3) := by decide +kernel
theorem dX8_trueFor_8 : decode cX8_trueFor 8 = .ok (.if_icmp .ge 26, 3) := by decide +kernel
theorem dX8_trueFor_11 : decode cX8_trueFor 11 = .ok (.iload_n 2, 1) := by decide +kernel
theorem dX8_trueFor_12 : decode cX8_trueFor 12 = .ok (.aload_n 0, 1) := by decide +kernel
theorem dX8_trueFor_13 : decode cX8_trueFor 13 = .ok (.iload_n 1, 1) := by decide +kernel
theorem dX8_trueFor_14 : decode cX8_trueFor 14 = .ok (.iload_n 3, 1) := by decide +kernel
theorem dX8_trueFor_15 : decode cX8_trueFor 15 = .ok (.invokevirtual 134, 3) := by decide +kernel
theorem dX8_trueFor_18 : decode cX8_trueFor 18 = .ok (.ifCond .eq 7, 3) := by decide +kernel
theorem dX8_trueFor_21 : decode cX8_trueFor 21 = .ok (.iconst 1, 1) := by decide +kernel
theorem dX8_trueFor_22 : decode cX8_trueFor 22 = .ok (.goto 4, 3) := by decide +kernel
theorem dX8_trueFor_25 : decode cX8_trueFor 25 = .ok (.iconst 0, 1) := by decide +kernel
theorem dX8_trueFor_26 : decode cX8_trueFor 26 = .ok (.iadd, 1) := by decide +kernel
theorem dX8_trueFor_27 : decode cX8_trueFor 27 = .ok (.istore_n 2, 1) := by decide +kernel
theorem dX8_trueFor_28 : decode cX8_trueFor 28 = .ok (.iinc 3 1, 3) := by decide +kernel
theorem dX8_trueFor_31 : decode cX8_trueFor 31 = .ok (.goto (-27), 3) := by decide +kernel
theorem dX8_trueFor_34 : decode cX8_trueFor 34 = .ok (.iload_n 2, 1) := by decide +kernel
theorem dX8_trueFor_35 : decode cX8_trueFor 35 = .ok (.ireturn, 1) := by decide +kernel
theorem dX8_formulaTold_0 : decode cX8_formulaTold 0 = .ok (.iload_n 2, 1) := by decide +kernel
theorem dX8_formulaTold_1 : decode cX8_formulaTold 1 = .ok (.ifCond .ne 12, 3) := by decide +kernel
theorem dX8_formulaTold_4 : decode cX8_formulaTold 4 = .ok (.aload_n 0, 1) := by decide +kernel
theorem dX8_formulaTold_5 : decode cX8_formulaTold 5 = .ok (.getfield 20, 3) := by decide +kernel
theorem dX8_formulaTold_8 : decode cX8_formulaTold 8 = .ok (.iload_n 1, 1) := by decide +kernel
theorem dX8_formulaTold_9 : decode cX8_formulaTold 9 = .ok (.iaload, 1) := by decide +kernel
theorem dX8_formulaTold_10 : decode cX8_formulaTold 10 = .ok (.goto 64, 3) := by decide +kernel
theorem dX8_formulaTold_13 : decode cX8_formulaTold 13 = .ok (.iload_n 2, 1) := by decide +kernel
theorem dX8_formulaTold_14 : decode cX8_formulaTold 14 = .ok (.iconst 1, 1) := by decide +kernel
theorem dX8_formulaTold_15 : decode cX8_formulaTold 15 = .ok (.if_icmp .ne 12, 3) := by decide +kernel
theorem dX8_formulaTold_18 : decode cX8_formulaTold 18 = .ok (.aload_n 0, 1) := by decide +kernel
theorem dX8_formulaTold_19 : decode cX8_formulaTold 19 = .ok (.getfield 23, 3) := by decide +kernel
theorem dX8_formulaTold_22 : decode cX8_formulaTold 22 = .ok (.iload_n 1, 1) := by decide +kernel
theorem dX8_formulaTold_23 : decode cX8_formulaTold 23 = .ok (.iaload, 1) := by decide +kernel
theorem dX8_formulaTold_24 : decode cX8_formulaTold 24 = .ok (.goto 50, 3) := by decide +kernel
theorem dX8_formulaTold_27 : decode cX8_formulaTold 27 = .ok (.iload_n 2, 1) := by decide +kernel
theorem dX8_formulaTold_28 : decode cX8_formulaTold 28 = .ok (.iconst 2, 1) := by decide +kernel
theorem dX8_formulaTold_29 : decode cX8_formulaTold 29 = .ok (.if_icmp .ne 12, 3) := by decide +kernel
theorem dX8_formulaTold_32 : decode cX8_formulaTold 32 = .ok (.aload_n 0, 1) := by decide +kernel
theorem dX8_formulaTold_33 : decode cX8_formulaTold 33 = .ok (.getfield 26, 3) := by decide +kernel
theorem dX8_formulaTold_36 : decode cX8_formulaTold 36 = .ok (.iload_n 1, 1) := by decide +kernel
theorem dX8_formulaTold_37 : decode cX8_formulaTold 37 = .ok (.iaload, 1) := by decide +kernel
theorem dX8_formulaTold_38 : decode cX8_formulaTold 38 = .ok (.goto 36, 3) := by decide +kernel
theorem dX8_formulaTold_41 : decode cX8_formulaTold 41 = .ok (.iload_n 2, 1) := by decide +kernel
theorem dX8_formulaTold_42 : decode cX8_formulaTold 42 = .ok (.iconst 3, 1) := by decide +kernel
theorem dX8_formulaTold_43 : decode cX8_formulaTold 43 = .ok (.if_icmp .ne 12, 3) := by decide +kernel
theorem dX8_formulaTold_46 : decode cX8_formulaTold 46 = .ok (.aload_n 0, 1) := by decide +kernel
theorem dX8_formulaTold_47 : decode cX8_formulaTold 47 = .ok (.getfield 29, 3) := by decide +kernel
theorem dX8_formulaTold_50 : decode cX8_formulaTold 50 = .ok (.iload_n 1, 1) := by decide +kernel
theorem dX8_formulaTold_51 : decode cX8_formulaTold 51 = .ok (.iaload, 1) := by decide +kernel
theorem dX8_formulaTold_52 : decode cX8_formulaTold 52 = .ok (.goto 22, 3) := by decide +kernel
theorem dX8_formulaTold_55 : decode cX8_formulaTold 55 = .ok (.iload_n 2, 1) := by decide +kernel
theorem dX8_formulaTold_56 : decode cX8_formulaTold 56 = .ok (.iconst 4, 1) := by decide +kernel
theorem dX8_formulaTold_57 : decode cX8_formulaTold 57 = .ok (.if_icmp .ne 11, 3) := by decide +kernel
theorem dX8_formulaTold_60 : decode cX8_formulaTold 60 = .ok (.aload_n 0, 1) := by decide +kernel
theorem dX8_formulaTold_61 : decode cX8_formulaTold 61 = .ok (.iload_n 1, 1) := by decide +kernel
theorem dX8_formulaTold_62 : decode cX8_formulaTold 62 = .ok (.invokevirtual 174, 3) := by decide +kernel
theorem dX8_formulaTold_65 : decode cX8_formulaTold 65 = .ok (.goto 9, 3) := by decide +kernel
theorem dX8_formulaTold_68 : decode cX8_formulaTold 68 = .ok (.aload_n 0, 1) := by decide +kernel
theorem dX8_formulaTold_69 : decode cX8_formulaTold 69 = .ok (.getfield 32, 3) := by decide +kernel
theorem dX8_formulaTold_72 : decode cX8_formulaTold 72 = .ok (.iload_n 1, 1) := by decide +kernel
theorem dX8_formulaTold_73 : decode cX8_formulaTold 73 = .ok (.iaload, 1) := by decide +kernel
theorem dX8_formulaTold_74 : decode cX8_formulaTold 74 = .ok (.ireturn, 1) := by decide +kernel
theorem dX8_formula_0 : decode cX8_formula 0 = .ok (.aload_n 0, 1) := by decide +kernel
theorem dX8_formula_1 : decode cX8_formula 1 = .ok (.iconst 0, 1) := by decide +kernel
theorem dX8_formula_2 : decode cX8_formula 2 = .ok (.putfield 106, 3) := by decide +kernel
theorem dX8_formula_5 : decode cX8_formula 5 = .ok (.aload_n 0, 1) := by decide +kernel
theorem dX8_formula_6 : decode cX8_formula 6 = .ok (.iload_n 1, 1) := by decide +kernel
theorem dX8_formula_7 : decode cX8_formula 7 = .ok (.invokevirtual 171, 3) := by decide +kernel
theorem dX8_formula_10 : decode cX8_formula 10 = .ok (.ifCond .eq 21, 3) := by decide +kernel
theorem dX8_formula_13 : decode cX8_formula 13 = .ok (.iload_n 2, 1) := by decide +kernel
theorem dX8_formula_14 : decode cX8_formula 14 = .ok (.iconst 0, 1) := by decide +kernel
theorem dX8_formula_15 : decode cX8_formula 15 = .ok (.iconst 5, 1) := by decide +kernel
theorem dX8_formula_16 : decode cX8_formula 16 = .ok (.invokestatic 112, 3) := by decide +kernel
theorem dX8_formula_19 : decode cX8_formula 19 = .ok (.ifCond .eq 12, 3) := by decide +kernel
theorem dX8_formula_22 : decode cX8_formula 22 = .ok (.aload_n 0, 1) := by decide +kernel
theorem dX8_formula_23 : decode cX8_formula 23 = .ok (.iload_n 1, 1) := by decide +kernel
theorem dX8_formula_24 : decode cX8_formula 24 = .ok (.iload_n 2, 1) := by decide +kernel
theorem dX8_formula_25 : decode cX8_formula 25 = .ok (.invokevirtual 177, 3) := by decide +kernel
theorem dX8_formula_28 : decode cX8_formula 28 = .ok (.goto 8, 3) := by decide +kernel
theorem dX8_formula_31 : decode cX8_formula 31 = .ok (.aload_n 0, 1) := by decide +kernel
theorem dX8_formula_32 : decode cX8_formula 32 = .ok (.iconst 1, 1) := by decide +kernel
theorem dX8_formula_33 : decode cX8_formula 33 = .ok (.invokevirtual 119, 3) := by decide +kernel
theorem dX8_formula_36 : decode cX8_formula 36 = .ok (.ireturn, 1) := by decide +kernel
theorem dX8_isTrue_0 : decode cX8_isTrue 0 = .ok (.aload_n 0, 1) := by decide +kernel
theorem dX8_isTrue_1 : decode cX8_isTrue 1 = .ok (.aload_n 0, 1) := by decide +kernel
theorem dX8_isTrue_2 : decode cX8_isTrue 2 = .ok (.iload_n 1, 1) := by decide +kernel
theorem dX8_isTrue_3 : decode cX8_isTrue 3 = .ok (.invokevirtual 171, 3) := by decide +kernel
theorem dX8_isTrue_6 : decode cX8_isTrue 6 = .ok (.ifCond .ne 7, 3) := by decide +kernel
theorem dX8_isTrue_9 : decode cX8_isTrue 9 = .ok (.iconst 1, 1) := by decide +kernel
theorem dX8_isTrue_10 : decode cX8_isTrue 10 = .ok (.goto 19, 3) := by decide +kernel
theorem dX8_isTrue_13 : decode cX8_isTrue 13 = .ok (.iload_n 2, 1) := by decide +kernel
theorem dX8_isTrue_14 : decode cX8_isTrue 14 = .ok (.iconst 0, 1) := by decide +kernel
theorem dX8_isTrue_15 : decode cX8_isTrue 15 = .ok (.sipush 255, 3) := by decide +kernel
theorem dX8_isTrue_18 : decode cX8_isTrue 18 = .ok (.invokestatic 112, 3) := by decide +kernel
theorem dX8_isTrue_21 : decode cX8_isTrue 21 = .ok (.ifCond .ne 7, 3) := by decide +kernel
theorem dX8_isTrue_24 : decode cX8_isTrue 24 = .ok (.iconst 2, 1) := by decide +kernel
theorem dX8_isTrue_25 : decode cX8_isTrue 25 = .ok (.goto 4, 3) := by decide +kernel
theorem dX8_isTrue_28 : decode cX8_isTrue 28 = .ok (.iconst 0, 1) := by decide +kernel
theorem dX8_isTrue_29 : decode cX8_isTrue 29 = .ok (.putfield 106, 3) := by decide +kernel
theorem dX8_isTrue_32 : decode cX8_isTrue 32 = .ok (.aload_n 0, 1) := by decide +kernel
theorem dX8_isTrue_33 : decode cX8_isTrue 33 = .ok (.getfield 106, 3) := by decide +kernel
theorem dX8_isTrue_36 : decode cX8_isTrue 36 = .ok (.ifCond .ne 16, 3) := by decide +kernel
theorem dX8_isTrue_39 : decode cX8_isTrue 39 = .ok (.aload_n 0, 1) := by decide +kernel
theorem dX8_isTrue_40 : decode cX8_isTrue 40 = .ok (.iload_n 1, 1) := by decide +kernel
theorem dX8_isTrue_41 : decode cX8_isTrue 41 = .ok (.iload_n 2, 1) := by decide +kernel
theorem dX8_isTrue_42 : decode cX8_isTrue 42 = .ok (.invokevirtual 134, 3) := by decide +kernel
theorem dX8_isTrue_45 : decode cX8_isTrue 45 = .ok (.ifCond .eq 7, 3) := by decide +kernel
theorem dX8_isTrue_48 : decode cX8_isTrue 48 = .ok (.iconst 1, 1) := by decide +kernel
theorem dX8_isTrue_49 : decode cX8_isTrue 49 = .ok (.goto 4, 3) := by decide +kernel
theorem dX8_isTrue_52 : decode cX8_isTrue 52 = .ok (.iconst 0, 1) := by decide +kernel
theorem dX8_isTrue_53 : decode cX8_isTrue 53 = .ok (.ireturn, 1) := by decide +kernel
theorem dX8_put_0 : decode cX8_put 0 = .ok (.aload_n 0, 1) := by decide +kernel
theorem dX8_put_1 : decode cX8_put 1 = .ok (.getfield 180, 3) := by decide +kernel
theorem dX8_put_4 : decode cX8_put 4 = .ok (.sipush 400, 3) := by decide +kernel
theorem dX8_put_7 : decode cX8_put 7 = .ok (.if_icmp .ge 13, 3) := by decide +kernel
theorem dX8_put_10 : decode cX8_put 10 = .ok (.aload_n 0, 1) := by decide +kernel
theorem dX8_put_11 : decode cX8_put 11 = .ok (.getfield 94, 3) := by decide +kernel
theorem dX8_put_14 : decode cX8_put 14 = .ok (.aload_n 0, 1) := by decide +kernel
theorem dX8_put_15 : decode cX8_put 15 = .ok (.getfield 180, 3) := by decide +kernel
theorem dX8_put_18 : decode cX8_put 18 = .ok (.iload_n 1, 1) := by decide +kernel
theorem dX8_put_19 : decode cX8_put 19 = .ok (.iastore, 1) := by decide +kernel
theorem dX8_put_20 : decode cX8_put 20 = .ok (.aload_n 0, 1) := by decide +kernel
theorem dX8_put_21 : decode cX8_put 21 = .ok (.dup, 1) := by decide +kernel
theorem dX8_put_22 : decode cX8_put 22 = .ok (.getfield 180, 3) := by decide +kernel
theorem dX8_put_25 : decode cX8_put 25 = .ok (.iconst 1, 1) := by decide +kernel
theorem dX8_put_26 : decode cX8_put 26 = .ok (.iadd, 1) := by decide +kernel
theorem dX8_put_27 : decode cX8_put 27 = .ok (.putfield 180, 3) := by decide +kernel
theorem dX8_put_30 : decode cX8_put 30 = .ok (.return_, 1) := by decide +kernel
theorem dX8_put__0 : decode cX8_put_ 0 = .ok (.aload_n 0, 1) := by decide +kernel
theorem dX8_put__1 : decode cX8_put_ 1 = .ok (.getfield 180, 3) := by decide +kernel
theorem dX8_put__4 : decode cX8_put_ 4 = .ok (.sipush 400, 3) := by decide +kernel
theorem dX8_put__7 : decode cX8_put_ 7 = .ok (.if_icmp .le 4, 3) := by decide +kernel
theorem dX8_put__10 : decode cX8_put_ 10 = .ok (.return_, 1) := by decide +kernel
theorem dX8_put__11 : decode cX8_put_ 11 = .ok (.aload_n 0, 1) := by decide +kernel
theorem dX8_put__12 : decode cX8_put_ 12 = .ok (.getfield 20, 3) := by decide +kernel
theorem dX8_put__15 : decode cX8_put_ 15 = .ok (.iload_n 1, 1) := by decide +kernel
theorem dX8_put__16 : decode cX8_put_ 16 = .ok (.iaload, 1) := by decide +kernel
theorem dX8_put__17 : decode cX8_put_ 17 = .ok (.istore_n 3, 1) := by decide +kernel
theorem dX8_put__18 : decode cX8_put_ 18 = .ok (.iload_n 3, 1) := by decide +kernel
theorem dX8_put__19 : decode cX8_put_ 19 = .ok (.iload_n 2, 1) := by decide +kernel
theorem dX8_put__20 : decode cX8_put_ 20 = .ok (.if_icmp .lt 7, 3) := by decide +kernel
theorem dX8_put__23 : decode cX8_put_ 23 = .ok (.iconst 1, 1) := by decide +kernel
theorem dX8_put__24 : decode cX8_put_ 24 = .ok (.goto 4, 3) := by decide +kernel
theorem dX8_put__27 : decode cX8_put_ 27 = .ok (.iconst 0, 1) := by decide +kernel
theorem dX8_put__28 : decode cX8_put_ 28 = .ok (.istore 4, 2) := by decide +kernel
theorem dX8_put__30 : decode cX8_put_ 30 = .ok (.iload 4, 2) := by decide +kernel
theorem dX8_put__32 : decode cX8_put_ 32 = .ok (.ifCond .eq 9, 3) := by decide +kernel
theorem dX8_put__35 : decode cX8_put_ 35 = .ok (.aload_n 0, 1) := by decide +kernel
theorem dX8_put__36 : decode cX8_put_ 36 = .ok (.bipush 40, 2) := by decide +kernel
theorem dX8_put__38 : decode cX8_put_ 38 = .ok (.invokevirtual 183, 3) := by decide +kernel
theorem dX8_put__41 : decode cX8_put_ 41 = .ok (.iload_n 3, 1) := by decide +kernel
theorem dX8_put__42 : decode cX8_put_ 42 = .ok (.ifCond .ne 19, 3) := by decide +kernel
theorem dX8_put__45 : decode cX8_put_ 45 = .ok (.aload_n 0, 1) := by decide +kernel
theorem dX8_put__46 : decode cX8_put_ 46 = .ok (.bipush 97, 2) := by decide +kernel
theorem dX8_put__48 : decode cX8_put_ 48 = .ok (.aload_n 0, 1) := by decide +kernel
theorem dX8_put__49 : decode cX8_put_ 49 = .ok (.getfield 23, 3) := by decide +kernel
theorem dX8_put__52 : decode cX8_put_ 52 = .ok (.iload_n 1, 1) := by decide +kernel
theorem dX8_put__53 : decode cX8_put_ 53 = .ok (.iaload, 1) := by decide +kernel
theorem dX8_put__54 : decode cX8_put_ 54 = .ok (.iadd, 1) := by decide +kernel
theorem dX8_put__55 : decode cX8_put_ 55 = .ok (.invokevirtual 183, 3) := by decide +kernel
theorem dX8_put__58 : decode cX8_put_ 58 = .ok (.goto 111, 3) := by decide +kernel
theorem dX8_put__61 : decode cX8_put_ 61 = .ok (.iload_n 3, 1) := by decide +kernel
theorem dX8_put__62 : decode cX8_put_ 62 = .ok (.iconst 1, 1) := by decide +kernel
theorem dX8_put__63 : decode cX8_put_ 63 = .ok (.if_icmp .ne 12, 3) := by decide +kernel
theorem dX8_put__66 : decode cX8_put_ 66 = .ok (.aload_n 0, 1) := by decide +kernel
theorem dX8_put__67 : decode cX8_put_ 67 = .ok (.bipush 35, 2) := by decide +kernel
theorem dX8_put__69 : decode cX8_put_ 69 = .ok (.invokevirtual 183, 3) := by decide +kernel
theorem dX8_put__72 : decode cX8_put_ 72 = .ok (.goto 97, 3) := by decide +kernel
theorem dX8_put__75 : decode cX8_put_ 75 = .ok (.iload_n 3, 1) := by decide +kernel
theorem dX8_put__76 : decode cX8_put_ 76 = .ok (.iconst 2, 1) := by decide +kernel
theorem dX8_put__77 : decode cX8_put_ 77 = .ok (.if_icmp .ne 23, 3) := by decide +kernel
theorem dX8_put__80 : decode cX8_put_ 80 = .ok (.aload_n 0, 1) := by decide +kernel
theorem dX8_put__81 : decode cX8_put_ 81 = .ok (.bipush 45, 2) := by decide +kernel
theorem dX8_put__83 : decode cX8_put_ 83 = .ok (.invokevirtual 183, 3) := by decide +kernel
theorem dX8_put__86 : decode cX8_put_ 86 = .ok (.aload_n 0, 1) := by decide +kernel
theorem dX8_put__87 : decode cX8_put_ 87 = .ok (.aload_n 0, 1) := by decide +kernel
theorem dX8_put__88 : decode cX8_put_ 88 = .ok (.getfield 23, 3) := by decide +kernel
theorem dX8_put__91 : decode cX8_put_ 91 = .ok (.iload_n 1, 1) := by decide +kernel
theorem dX8_put__92 : decode cX8_put_ 92 = .ok (.iaload, 1) := by decide +kernel
theorem dX8_put__93 : decode cX8_put_ 93 = .ok (.iconst 3, 1) := by decide +kernel
theorem dX8_put__94 : decode cX8_put_ 94 = .ok (.invokevirtual 187, 3) := by decide +kernel
theorem dX8_put__97 : decode cX8_put_ 97 = .ok (.goto 72, 3) := by decide +kernel
theorem dX8_put__100 : decode cX8_put_ 100 = .ok (.aload_n 0, 1) := by decide +kernel
theorem dX8_put__101 : decode cX8_put_ 101 = .ok (.aload_n 0, 1) := by decide +kernel
theorem dX8_put__102 : decode cX8_put_ 102 = .ok (.getfield 23, 3) := by decide +kernel
theorem dX8_put__105 : decode cX8_put_ 105 = .ok (.iload_n 1, 1) := by decide +kernel
theorem dX8_put__106 : decode cX8_put_ 106 = .ok (.iaload, 1) := by decide +kernel
theorem dX8_put__107 : decode cX8_put_ 107 = .ok (.iload_n 3, 1) := by decide +kernel
theorem dX8_put__108 : decode cX8_put_ 108 = .ok (.iconst 5, 1) := by decide +kernel
theorem dX8_put__109 : decode cX8_put_ 109 = .ok (.if_icmp .ne 7, 3) := by decide +kernel
theorem dX8_put__112 : decode cX8_put_ 112 = .ok (.iconst 5, 1) := by decide +kernel
theorem dX8_put__113 : decode cX8_put_ 113 = .ok (.goto 6, 3) := by decide +kernel
theorem dX8_put__116 : decode cX8_put_ 116 = .ok (.iload_n 3, 1) := by decide +kernel
theorem dX8_put__117 : decode cX8_put_ 117 = .ok (.iconst 1, 1) := by decide +kernel
theorem dX8_put__118 : decode cX8_put_ 118 = .ok (.iadd, 1) := by decide +kernel
theorem dX8_put__119 : decode cX8_put_ 119 = .ok (.invokevirtual 187, 3) := by decide +kernel
theorem dX8_put__122 : decode cX8_put_ 122 = .ok (.aload_n 0, 1) := by decide +kernel
theorem dX8_put__123 : decode cX8_put_ 123 = .ok (.iload_n 3, 1) := by decide +kernel
theorem dX8_put__124 : decode cX8_put_ 124 = .ok (.iconst 3, 1) := by decide +kernel
theorem dX8_put__125 : decode cX8_put_ 125 = .ok (.if_icmp .ne 8, 3) := by decide +kernel
theorem dX8_put__128 : decode cX8_put_ 128 = .ok (.bipush 38, 2) := by decide +kernel
theorem dX8_put__130 : decode cX8_put_ 130 = .ok (.goto 15, 3) := by decide +kernel
theorem dX8_put__133 : decode cX8_put_ 133 = .ok (.iload_n 3, 1) := by decide +kernel
theorem dX8_put__134 : decode cX8_put_ 134 = .ok (.iconst 4, 1) := by decide +kernel
theorem dX8_put__135 : decode cX8_put_ 135 = .ok (.if_icmp .ne 8, 3) := by decide +kernel
theorem dX8_put__138 : decode cX8_put_ 138 = .ok (.bipush 124, 2) := by decide +kernel
theorem dX8_put__140 : decode cX8_put_ 140 = .ok (.goto 5, 3) := by decide +kernel
theorem dX8_put__143 : decode cX8_put_ 143 = .ok (.bipush 62, 2) := by decide +kernel
theorem dX8_put__145 : decode cX8_put_ 145 = .ok (.invokevirtual 183, 3) := by decide +kernel
theorem dX8_put__148 : decode cX8_put_ 148 = .ok (.aload_n 0, 1) := by decide +kernel
theorem dX8_put__149 : decode cX8_put_ 149 = .ok (.aload_n 0, 1) := by decide +kernel
theorem dX8_put__150 : decode cX8_put_ 150 = .ok (.getfield 26, 3) := by decide +kernel
theorem dX8_put__153 : decode cX8_put_ 153 = .ok (.iload_n 1, 1) := by decide +kernel
theorem dX8_put__154 : decode cX8_put_ 154 = .ok (.iaload, 1) := by decide +kernel
theorem dX8_put__155 : decode cX8_put_ 155 = .ok (.iload_n 3, 1) := by decide +kernel
theorem dX8_put__156 : decode cX8_put_ 156 = .ok (.iconst 5, 1) := by decide +kernel
theorem dX8_put__157 : decode cX8_put_ 157 = .ok (.if_icmp .ne 8, 3) := by decide +kernel
theorem dX8_put__160 : decode cX8_put_ 160 = .ok (.bipush 6, 2) := by decide +kernel
theorem dX8_put__162 : decode cX8_put_ 162 = .ok (.goto 4, 3) := by decide +kernel
theorem dX8_put__165 : decode cX8_put_ 165 = .ok (.iload_n 3, 1) := by decide +kernel
theorem dX8_put__166 : decode cX8_put_ 166 = .ok (.invokevirtual 187, 3) := by decide +kernel
theorem dX8_put__169 : decode cX8_put_ 169 = .ok (.iload 4, 2) := by decide +kernel
theorem dX8_put__171 : decode cX8_put_ 171 = .ok (.ifCond .eq 9, 3) := by decide +kernel
theorem dX8_put__174 : decode cX8_put_ 174 = .ok (.aload_n 0, 1) := by decide +kernel
theorem dX8_put__175 : decode cX8_put_ 175 = .ok (.bipush 41, 2) := by decide +kernel
theorem dX8_put__177 : decode cX8_put_ 177 = .ok (.invokevirtual 183, 3) := by decide +kernel
theorem dX8_put__180 : decode cX8_put_ 180 = .ok (.return_, 1) := by decide +kernel
theorem dX8_write_0 : decode cX8_write 0 = .ok (.aload_n 0, 1) := by decide +kernel
theorem dX8_write_1 : decode cX8_write 1 = .ok (.iconst 0, 1) := by decide +kernel
theorem dX8_write_2 : decode cX8_write 2 = .ok (.putfield 106, 3) := by decide +kernel
theorem dX8_write_5 : decode cX8_write 5 = .ok (.aload_n 0, 1) := by decide +kernel
theorem dX8_write_6 : decode cX8_write 6 = .ok (.iload_n 1, 1) := by decide +kernel
theorem dX8_write_7 : decode cX8_write 7 = .ok (.invokevirtual 171, 3) := by decide +kernel
theorem dX8_write_10 : decode cX8_write 10 = .ok (.ifCond .ne 9, 3) := by decide +kernel
theorem dX8_write_13 : decode cX8_write 13 = .ok (.aload_n 0, 1) := by decide +kernel
theorem dX8_write_14 : decode cX8_write 14 = .ok (.iconst 1, 1) := by decide +kernel
theorem dX8_write_15 : decode cX8_write 15 = .ok (.invokevirtual 119, 3) := by decide +kernel
theorem dX8_write_18 : decode cX8_write 18 = .ok (.ireturn, 1) := by decide +kernel
theorem dX8_write_19 : decode cX8_write 19 = .ok (.aload_n 0, 1) := by decide +kernel
theorem dX8_write_20 : decode cX8_write 20 = .ok (.iconst 0, 1) := by decide +kernel
theorem dX8_write_21 : decode cX8_write 21 = .ok (.putfield 180, 3) := by decide +kernel
theorem dX8_write_24 : decode cX8_write 24 = .ok (.aload_n 0, 1) := by decide +kernel
theorem dX8_write_25 : decode cX8_write 25 = .ok (.iload_n 1, 1) := by decide +kernel
theorem dX8_write_26 : decode cX8_write 26 = .ok (.bipush 6, 2) := by decide +kernel
theorem dX8_write_28 : decode cX8_write 28 = .ok (.invokevirtual 187, 3) := by decide +kernel
theorem dX8_write_31 : decode cX8_write 31 = .ok (.aload_n 0, 1) := by decide +kernel
theorem dX8_write_32 : decode cX8_write 32 = .ok (.getfield 180, 3) := by decide +kernel
theorem dX8_write_35 : decode cX8_write 35 = .ok (.sipush 400, 3) := by decide +kernel
theorem dX8_write_38 : decode cX8_write 38 = .ok (.if_icmp .le 9, 3) := by decide +kernel
theorem dX8_write_41 : decode cX8_write 41 = .ok (.aload_n 0, 1) := by decide +kernel
theorem dX8_write_42 : decode cX8_write 42 = .ok (.iconst 2, 1) := by decide +kernel
theorem dX8_write_43 : decode cX8_write 43 = .ok (.invokevirtual 119, 3) := by decide +kernel
theorem dX8_write_46 : decode cX8_write 46 = .ok (.ireturn, 1) := by decide +kernel
theorem dX8_write_47 : decode cX8_write 47 = .ok (.aload_n 0, 1) := by decide +kernel
theorem dX8_write_48 : decode cX8_write 48 = .ok (.getfield 94, 3) := by decide +kernel
theorem dX8_write_51 : decode cX8_write 51 = .ok (.iconst 0, 1) := by decide +kernel
theorem dX8_write_52 : decode cX8_write 52 = .ok (.aload_n 0, 1) := by decide +kernel
theorem dX8_write_53 : decode cX8_write 53 = .ok (.getfield 17, 3) := by decide +kernel
theorem dX8_write_56 : decode cX8_write 56 = .ok (.iconst 0, 1) := by decide +kernel
theorem dX8_write_57 : decode cX8_write 57 = .ok (.aload_n 0, 1) := by decide +kernel
theorem dX8_write_58 : decode cX8_write 58 = .ok (.getfield 180, 3) := by decide +kernel
theorem dX8_write_61 : decode cX8_write 61 = .ok (.invokestatic 190, 3) := by decide +kernel
theorem dX8_write_64 : decode cX8_write 64 = .ok (.aload_n 0, 1) := by decide +kernel
theorem dX8_write_65 : decode cX8_write 65 = .ok (.aload_n 0, 1) := by decide +kernel
theorem dX8_write_66 : decode cX8_write 66 = .ok (.getfield 180, 3) := by decide +kernel
theorem dX8_write_69 : decode cX8_write 69 = .ok (.putfield 196, 3) := by decide +kernel
theorem dX8_write_72 : decode cX8_write 72 = .ok (.aload_n 0, 1) := by decide +kernel
theorem dX8_write_73 : decode cX8_write 73 = .ok (.getfield 196, 3) := by decide +kernel
theorem dX8_write_76 : decode cX8_write 76 = .ok (.ireturn, 1) := by decide +kernel
theorem dX8_byteAt_0 : decode cX8_byteAt 0 = .ok (.aload_n 0, 1) := by decide +kernel
theorem dX8_byteAt_1 : decode cX8_byteAt 1 = .ok (.iconst 0, 1) := by decide +kernel
theorem dX8_byteAt_2 : decode cX8_byteAt 2 = .ok (.putfield 106, 3) := by decide +kernel
theorem dX8_byteAt_5 : decode cX8_byteAt 5 = .ok (.iload_n 1, 1) := by decide +kernel
theorem dX8_byteAt_6 : decode cX8_byteAt 6 = .ok (.iconst 0, 1) := by decide +kernel
theorem dX8_byteAt_7 : decode cX8_byteAt 7 = .ok (.aload_n 0, 1) := by decide +kernel
theorem dX8_byteAt_8 : decode cX8_byteAt 8 = .ok (.getfield 196, 3) := by decide +kernel
theorem dX8_byteAt_11 : decode cX8_byteAt 11 = .ok (.iconst 1, 1) := by decide +kernel
theorem dX8_byteAt_12 : decode cX8_byteAt 12 = .ok (.isub, 1) := by decide +kernel
theorem dX8_byteAt_13 : decode cX8_byteAt 13 = .ok (.invokestatic 112, 3) := by decide +kernel
theorem dX8_byteAt_16 : decode cX8_byteAt 16 = .ok (.ifCond .eq 12, 3) := by decide +kernel
theorem dX8_byteAt_19 : decode cX8_byteAt 19 = .ok (.aload_n 0, 1) := by decide +kernel
theorem dX8_byteAt_20 : decode cX8_byteAt 20 = .ok (.getfield 17, 3) := by decide +kernel
theorem dX8_byteAt_23 : decode cX8_byteAt 23 = .ok (.iload_n 1, 1) := by decide +kernel
theorem dX8_byteAt_24 : decode cX8_byteAt 24 = .ok (.iaload, 1) := by decide +kernel
theorem dX8_byteAt_25 : decode cX8_byteAt 25 = .ok (.goto 8, 3) := by decide +kernel
theorem dX8_byteAt_28 : decode cX8_byteAt 28 = .ok (.aload_n 0, 1) := by decide +kernel
theorem dX8_byteAt_29 : decode cX8_byteAt 29 = .ok (.iconst 1, 1) := by decide +kernel
theorem dX8_byteAt_30 : decode cX8_byteAt 30 = .ok (.invokevirtual 119, 3) := by decide +kernel
theorem dX8_byteAt_33 : decode cX8_byteAt 33 = .ok (.ireturn, 1) := by decide +kernel
theorem dX8_clear_0 : decode cX8_clear 0 = .ok (.aload_n 0, 1) := by decide +kernel
theorem dX8_clear_1 : decode cX8_clear 1 = .ok (.getfield 199, 3) := by decide +kernel
theorem dX8_clear_4 : decode cX8_clear 4 = .ok (.istore_n 1, 1) := by decide +kernel
theorem dX8_clear_5 : decode cX8_clear 5 = .ok (.aload_n 0, 1) := by decide +kernel
theorem dX8_clear_6 : decode cX8_clear 6 = .ok (.iconst 0, 1) := by decide +kernel
theorem dX8_clear_7 : decode cX8_clear 7 = .ok (.putfield 199, 3) := by decide +kernel
theorem dX8_clear_10 : decode cX8_clear 10 = .ok (.aload_n 0, 1) := by decide +kernel
theorem dX8_clear_11 : decode cX8_clear 11 = .ok (.iconst 0, 1) := by decide +kernel
theorem dX8_clear_12 : decode cX8_clear 12 = .ok (.putfield 202, 3) := by decide +kernel
theorem dX8_clear_15 : decode cX8_clear 15 = .ok (.aload_n 0, 1) := by decide +kernel
theorem dX8_clear_16 : decode cX8_clear 16 = .ok (.iconst (-1), 1) := by decide +kernel
theorem dX8_clear_17 : decode cX8_clear 17 = .ok (.putfield 61, 3) := by decide +kernel
theorem dX8_clear_20 : decode cX8_clear 20 = .ok (.aload_n 0, 1) := by decide +kernel
theorem dX8_clear_21 : decode cX8_clear 21 = .ok (.iconst 0, 1) := by decide +kernel
theorem dX8_clear_22 : decode cX8_clear 22 = .ok (.putfield 205, 3) := by decide +kernel
theorem dX8_clear_25 : decode cX8_clear 25 = .ok (.iload_n 1, 1) := by decide +kernel
theorem dX8_clear_26 : decode cX8_clear 26 = .ok (.ireturn, 1) := by decide +kernel
theorem dX8_begin_0 : decode cX8_begin 0 = .ok (.aload_n 0, 1) := by decide +kernel
theorem dX8_begin_1 : decode cX8_begin 1 = .ok (.iconst 0, 1) := by decide +kernel
theorem dX8_begin_2 : decode cX8_begin 2 = .ok (.putfield 106, 3) := by decide +kernel
theorem dX8_begin_5 : decode cX8_begin 5 = .ok (.aload_n 0, 1) := by decide +kernel
theorem dX8_begin_6 : decode cX8_begin 6 = .ok (.invokevirtual 208, 3) := by decide +kernel
theorem dX8_begin_9 : decode cX8_begin 9 = .ok (.ireturn, 1) := by decide +kernel
theorem dX8_add_0 : decode cX8_add 0 = .ok (.aload_n 0, 1) := by decide +kernel
theorem dX8_add_1 : decode cX8_add 1 = .ok (.getfield 40, 3) := by decide +kernel
theorem dX8_add_4 : decode cX8_add 4 = .ok (.aload_n 0, 1) := by decide +kernel
theorem dX8_add_5 : decode cX8_add 5 = .ok (.getfield 199, 3) := by decide +kernel
theorem dX8_add_8 : decode cX8_add 8 = .ok (.iload_n 1, 1) := by decide +kernel
theorem dX8_add_9 : decode cX8_add 9 = .ok (.iastore, 1) := by decide +kernel
theorem dX8_add_10 : decode cX8_add 10 = .ok (.aload_n 0, 1) := by decide +kernel
theorem dX8_add_11 : decode cX8_add 11 = .ok (.getfield 43, 3) := by decide +kernel
theorem dX8_add_14 : decode cX8_add 14 = .ok (.aload_n 0, 1) := by decide +kernel
theorem dX8_add_15 : decode cX8_add 15 = .ok (.getfield 199, 3) := by decide +kernel
theorem dX8_add_18 : decode cX8_add 18 = .ok (.iload_n 2, 1) := by decide +kernel
theorem dX8_add_19 : decode cX8_add 19 = .ok (.iastore, 1) := by decide +kernel
theorem dX8_add_20 : decode cX8_add 20 = .ok (.aload_n 0, 1) := by decide +kernel
theorem dX8_add_21 : decode cX8_add 21 = .ok (.getfield 46, 3) := by decide +kernel
theorem dX8_add_24 : decode cX8_add 24 = .ok (.iconst 3, 1) := by decide +kernel
theorem dX8_add_25 : decode cX8_add 25 = .ok (.aload_n 0, 1) := by decide +kernel
theorem dX8_add_26 : decode cX8_add 26 = .ok (.getfield 199, 3) := by decide +kernel
theorem dX8_add_29 : decode cX8_add 29 = .ok (.imul, 1) := by decide +kernel
theorem dX8_add_30 : decode cX8_add 30 = .ok (.iload_n 3, 1) := by decide +kernel
theorem dX8_add_31 : decode cX8_add 31 = .ok (.iastore, 1) := by decide +kernel
theorem dX8_add_32 : decode cX8_add 32 = .ok (.aload_n 0, 1) := by decide +kernel
theorem dX8_add_33 : decode cX8_add 33 = .ok (.getfield 46, 3) := by decide +kernel
theorem dX8_add_36 : decode cX8_add 36 = .ok (.iconst 3, 1) := by decide +kernel
theorem dX8_add_37 : decode cX8_add 37 = .ok (.aload_n 0, 1) := by decide +kernel
theorem dX8_add_38 : decode cX8_add 38 = .ok (.getfield 199, 3) := by decide +kernel
theorem dX8_add_41 : decode cX8_add 41 = .ok (.imul, 1) := by decide +kernel
theorem dX8_add_42 : decode cX8_add 42 = .ok (.iconst 1, 1) := by decide +kernel
theorem dX8_add_43 : decode cX8_add 43 = .ok (.iadd, 1) := by decide +kernel
theorem dX8_add_44 : decode cX8_add 44 = .ok (.iload 4, 2) := by decide +kernel
theorem dX8_add_46 : decode cX8_add 46 = .ok (.iastore, 1) := by decide +kernel
theorem dX8_add_47 : decode cX8_add 47 = .ok (.aload_n 0, 1) := by decide +kernel
theorem dX8_add_48 : decode cX8_add 48 = .ok (.getfield 46, 3) := by decide +kernel
theorem dX8_add_51 : decode cX8_add 51 = .ok (.iconst 3, 1) := by decide +kernel
theorem dX8_add_52 : decode cX8_add 52 = .ok (.aload_n 0, 1) := by decide +kernel
theorem dX8_add_53 : decode cX8_add 53 = .ok (.getfield 199, 3) := by decide +kernel
theorem dX8_add_56 : decode cX8_add 56 = .ok (.imul, 1) := by decide +kernel
theorem dX8_add_57 : decode cX8_add 57 = .ok (.iconst 2, 1) := by decide +kernel
theorem dX8_add_58 : decode cX8_add 58 = .ok (.iadd, 1) := by decide +kernel
theorem dX8_add_59 : decode cX8_add 59 = .ok (.iload 5, 2) := by decide +kernel
theorem dX8_add_61 : decode cX8_add 61 = .ok (.iastore, 1) := by decide +kernel
theorem dX8_add_62 : decode cX8_add 62 = .ok (.aload_n 0, 1) := by decide +kernel
theorem dX8_add_63 : decode cX8_add 63 = .ok (.getfield 49, 3) := by decide +kernel
theorem dX8_add_66 : decode cX8_add 66 = .ok (.aload_n 0, 1) := by decide +kernel
theorem dX8_add_67 : decode cX8_add 67 = .ok (.getfield 199, 3) := by decide +kernel
theorem dX8_add_70 : decode cX8_add 70 = .ok (.aload_n 0, 1) := by decide +kernel
theorem dX8_add_71 : decode cX8_add 71 = .ok (.getfield 61, 3) := by decide +kernel
theorem dX8_add_74 : decode cX8_add 74 = .ok (.iastore, 1) := by decide +kernel
theorem dX8_add_75 : decode cX8_add 75 = .ok (.aload_n 0, 1) := by decide +kernel
theorem dX8_add_76 : decode cX8_add 76 = .ok (.getfield 64, 3) := by decide +kernel
theorem dX8_add_79 : decode cX8_add 79 = .ok (.aload_n 0, 1) := by decide +kernel
theorem dX8_add_80 : decode cX8_add 80 = .ok (.getfield 205, 3) := by decide +kernel
theorem dX8_add_83 : decode cX8_add 83 = .ok (.aload_n 0, 1) := by decide +kernel
theorem dX8_add_84 : decode cX8_add 84 = .ok (.getfield 199, 3) := by decide +kernel
theorem dX8_add_87 : decode cX8_add 87 = .ok (.iastore, 1) := by decide +kernel
theorem dX8_add_88 : decode cX8_add 88 = .ok (.aload_n 0, 1) := by decide +kernel
theorem dX8_add_89 : decode cX8_add 89 = .ok (.dup, 1) := by decide +kernel
theorem dX8_add_90 : decode cX8_add 90 = .ok (.getfield 205, 3) := by decide +kernel
theorem dX8_add_93 : decode cX8_add 93 = .ok (.iconst 1, 1) := by decide +kernel
theorem dX8_add_94 : decode cX8_add 94 = .ok (.iadd, 1) := by decide +kernel
theorem dX8_add_95 : decode cX8_add 95 = .ok (.putfield 205, 3) := by decide +kernel
theorem dX8_add_98 : decode cX8_add 98 = .ok (.aload_n 0, 1) := by decide +kernel
theorem dX8_add_99 : decode cX8_add 99 = .ok (.dup, 1) := by decide +kernel
theorem dX8_add_100 : decode cX8_add 100 = .ok (.getfield 199, 3) := by decide +kernel
theorem dX8_add_103 : decode cX8_add 103 = .ok (.iconst 1, 1) := by decide +kernel
theorem dX8_add_104 : decode cX8_add 104 = .ok (.iadd, 1) := by decide +kernel
theorem dX8_add_105 : decode cX8_add 105 = .ok (.putfield 199, 3) := by decide +kernel
theorem dX8_add_108 : decode cX8_add 108 = .ok (.aload_n 0, 1) := by decide +kernel
theorem dX8_add_109 : decode cX8_add 109 = .ok (.getfield 199, 3) := by decide +kernel
theorem dX8_add_112 : decode cX8_add 112 = .ok (.iconst 1, 1) := by decide +kernel
theorem dX8_add_113 : decode cX8_add 113 = .ok (.isub, 1) := by decide +kernel
theorem dX8_add_114 : decode cX8_add 114 = .ok (.ireturn, 1) := by decide +kernel
theorem dX8_premisesNow_0 : decode cX8_premisesNow 0 = .ok (.iconst 0, 1) := by decide +kernel
theorem dX8_premisesNow_1 : decode cX8_premisesNow 1 = .ok (.istore_n 1, 1) := by decide +kernel
theorem dX8_premisesNow_2 : decode cX8_premisesNow 2 = .ok (.iload_n 1, 1) := by decide +kernel
theorem dX8_premisesNow_3 : decode cX8_premisesNow 3 = .ok (.aload_n 0, 1) := by decide +kernel
theorem dX8_premisesNow_4 : decode cX8_premisesNow 4 = .ok (.getfield 199, 3) := by decide +kernel
theorem dX8_premisesNow_7 : decode cX8_premisesNow 7 = .ok (.if_icmp .ge 20, 3) := by decide +kernel
theorem dX8_premisesNow_10 : decode cX8_premisesNow 10 = .ok (.aload_n 0, 1) := by decide +kernel
theorem dX8_premisesNow_11 : decode cX8_premisesNow 11 = .ok (.getfield 43, 3) := by decide +kernel
theorem dX8_premisesNow_14 : decode cX8_premisesNow 14 = .ok (.iload_n 1, 1) := by decide +kernel
theorem dX8_premisesNow_15 : decode cX8_premisesNow 15 = .ok (.iaload, 1) := by decide +kernel
theorem dX8_premisesNow_16 : decode cX8_premisesNow 16 = .ok (.bipush 15, 2) := by decide +kernel
theorem dX8_premisesNow_18 : decode cX8_premisesNow 18 = .ok (.if_icmp .ne 9, 3) := by decide +kernel
theorem dX8_premisesNow_21 : decode cX8_premisesNow 21 = .ok (.iinc 1 1, 3) := by decide +kernel
theorem dX8_premisesNow_24 : decode cX8_premisesNow 24 = .ok (.goto (-22), 3) := by decide +kernel
theorem dX8_premisesNow_27 : decode cX8_premisesNow 27 = .ok (.iload_n 1, 1) := by decide +kernel
theorem dX8_premisesNow_28 : decode cX8_premisesNow 28 = .ok (.ireturn, 1) := by decide +kernel
theorem dX8_premise_0 : decode cX8_premise 0 = .ok (.aload_n 0, 1) := by decide +kernel
theorem dX8_premise_1 : decode cX8_premise 1 = .ok (.iconst 0, 1) := by decide +kernel
theorem dX8_premise_2 : decode cX8_premise 2 = .ok (.putfield 106, 3) := by decide +kernel
theorem dX8_premise_5 : decode cX8_premise 5 = .ok (.aload_n 0, 1) := by decide +kernel
theorem dX8_premise_6 : decode cX8_premise 6 = .ok (.iload_n 1, 1) := by decide +kernel
theorem dX8_premise_7 : decode cX8_premise 7 = .ok (.invokevirtual 171, 3) := by decide +kernel
theorem dX8_premise_10 : decode cX8_premise 10 = .ok (.ifCond .ne 9, 3) := by decide +kernel
theorem dX8_premise_13 : decode cX8_premise 13 = .ok (.aload_n 0, 1) := by decide +kernel
theorem dX8_premise_14 : decode cX8_premise 14 = .ok (.iconst 1, 1) := by decide +kernel
theorem dX8_premise_15 : decode cX8_premise 15 = .ok (.invokevirtual 119, 3) := by decide +kernel
theorem dX8_premise_18 : decode cX8_premise 18 = .ok (.ireturn, 1) := by decide +kernel
theorem dX8_premise_19 : decode cX8_premise 19 = .ok (.aload_n 0, 1) := by decide +kernel
theorem dX8_premise_20 : decode cX8_premise 20 = .ok (.invokevirtual 211, 3) := by decide +kernel
theorem dX8_premise_23 : decode cX8_premise 23 = .ok (.aload_n 0, 1) := by decide +kernel
theorem dX8_premise_24 : decode cX8_premise 24 = .ok (.getfield 199, 3) := by decide +kernel
theorem dX8_premise_27 : decode cX8_premise 27 = .ok (.if_icmp .lt 11, 3) := by decide +kernel
theorem dX8_premise_30 : decode cX8_premise 30 = .ok (.aload_n 0, 1) := by decide +kernel
theorem dX8_premise_31 : decode cX8_premise 31 = .ok (.getfield 199, 3) := by decide +kernel
theorem dX8_premise_34 : decode cX8_premise 34 = .ok (.iconst 2, 1) := by decide +kernel
theorem dX8_premise_35 : decode cX8_premise 35 = .ok (.if_icmp .ne 9, 3) := by decide +kernel
theorem dX8_premise_38 : decode cX8_premise 38 = .ok (.aload_n 0, 1) := by decide +kernel
theorem dX8_premise_39 : decode cX8_premise 39 = .ok (.iconst 2, 1) := by decide +kernel
theorem dX8_premise_40 : decode cX8_premise 40 = .ok (.invokevirtual 119, 3) := by decide +kernel
theorem dX8_premise_43 : decode cX8_premise 43 = .ok (.ireturn, 1) := by decide +kernel
theorem dX8_premise_44 : decode cX8_premise 44 = .ok (.aload_n 0, 1) := by decide +kernel
theorem dX8_premise_45 : decode cX8_premise 45 = .ok (.iload_n 1, 1) := by decide +kernel
theorem dX8_premise_46 : decode cX8_premise 46 = .ok (.bipush 15, 2) := by decide +kernel
theorem dX8_premise_48 : decode cX8_premise 48 = .ok (.iconst 0, 1) := by decide +kernel
theorem dX8_premise_49 : decode cX8_premise 49 = .ok (.iconst 0, 1) := by decide +kernel
theorem dX8_premise_50 : decode cX8_premise 50 = .ok (.iconst 0, 1) := by decide +kernel
theorem dX8_premise_51 : decode cX8_premise 51 = .ok (.invokevirtual 214, 3) := by decide +kernel
theorem dX8_premise_54 : decode cX8_premise 54 = .ok (.ireturn, 1) := by decide +kernel
theorem dX8_open_0 : decode cX8_open 0 = .ok (.iconst 0, 1) := by decide +kernel
theorem dX8_open_1 : decode cX8_open 1 = .ok (.istore_n 1, 1) := by decide +kernel
theorem dX8_open_2 : decode cX8_open 2 = .ok (.aload_n 0, 1) := by decide +kernel
theorem dX8_open_3 : decode cX8_open 3 = .ok (.getfield 61, 3) := by decide +kernel
theorem dX8_open_6 : decode cX8_open 6 = .ok (.istore_n 2, 1) := by decide +kernel
theorem dX8_open_7 : decode cX8_open 7 = .ok (.iload_n 2, 1) := by decide +kernel
theorem dX8_open_8 : decode cX8_open 8 = .ok (.iconst (-1), 1) := by decide +kernel
theorem dX8_open_9 : decode cX8_open 9 = .ok (.if_icmp .eq 16, 3) := by decide +kernel
theorem dX8_open_12 : decode cX8_open 12 = .ok (.iinc 1 1, 3) := by decide +kernel
theorem dX8_open_15 : decode cX8_open 15 = .ok (.aload_n 0, 1) := by decide +kernel
theorem dX8_open_16 : decode cX8_open 16 = .ok (.getfield 58, 3) := by decide +kernel
theorem dX8_open_19 : decode cX8_open 19 = .ok (.iload_n 2, 1) := by decide +kernel
theorem dX8_open_20 : decode cX8_open 20 = .ok (.iaload, 1) := by decide +kernel
theorem dX8_open_21 : decode cX8_open 21 = .ok (.istore_n 2, 1) := by decide +kernel
theorem dX8_open_22 : decode cX8_open 22 = .ok (.goto (-15), 3) := by decide +kernel
theorem dX8_open_25 : decode cX8_open 25 = .ok (.iload_n 1, 1) := by decide +kernel
theorem dX8_open_26 : decode cX8_open 26 = .ok (.ireturn, 1) := by decide +kernel
theorem dX8_assume_0 : decode cX8_assume 0 = .ok (.aload_n 0, 1) := by decide +kernel
theorem dX8_assume_1 : decode cX8_assume 1 = .ok (.iconst 0, 1) := by decide +kernel
theorem dX8_assume_2 : decode cX8_assume 2 = .ok (.putfield 106, 3) := by decide +kernel
theorem dX8_assume_5 : decode cX8_assume 5 = .ok (.aload_n 0, 1) := by decide +kernel
theorem dX8_assume_6 : decode cX8_assume 6 = .ok (.iload_n 1, 1) := by decide +kernel
theorem dX8_assume_7 : decode cX8_assume 7 = .ok (.invokevirtual 171, 3) := by decide +kernel
theorem dX8_assume_10 : decode cX8_assume 10 = .ok (.ifCond .ne 9, 3) := by decide +kernel
theorem dX8_assume_13 : decode cX8_assume 13 = .ok (.aload_n 0, 1) := by decide +kernel
theorem dX8_assume_14 : decode cX8_assume 14 = .ok (.iconst 1, 1) := by decide +kernel
theorem dX8_assume_15 : decode cX8_assume 15 = .ok (.invokevirtual 119, 3) := by decide +kernel
theorem dX8_assume_18 : decode cX8_assume 18 = .ok (.ireturn, 1) := by decide +kernel
theorem dX8_assume_19 : decode cX8_assume 19 = .ok (.aload_n 0, 1) := by decide +kernel
theorem dX8_assume_20 : decode cX8_assume 20 = .ok (.invokevirtual 218, 3) := by decide +kernel
theorem dX8_assume_23 : decode cX8_assume 23 = .ok (.bipush 6, 2) := by decide +kernel
theorem dX8_assume_25 : decode cX8_assume 25 = .ok (.if_icmp .eq 12, 3) := by decide +kernel
theorem dX8_assume_28 : decode cX8_assume 28 = .ok (.aload_n 0, 1) := by decide +kernel
theorem dX8_assume_29 : decode cX8_assume 29 = .ok (.getfield 199, 3) := by decide +kernel
theorem dX8_assume_32 : decode cX8_assume 32 = .ok (.bipush 60, 2) := by decide +kernel
theorem dX8_assume_34 : decode cX8_assume 34 = .ok (.if_icmp .ne 9, 3) := by decide +kernel
theorem dX8_assume_37 : decode cX8_assume 37 = .ok (.aload_n 0, 1) := by decide +kernel
theorem dX8_assume_38 : decode cX8_assume 38 = .ok (.iconst 2, 1) := by decide +kernel
theorem dX8_assume_39 : decode cX8_assume 39 = .ok (.invokevirtual 119, 3) := by decide +kernel
theorem dX8_assume_42 : decode cX8_assume 42 = .ok (.ireturn, 1) := by decide +kernel
theorem dX8_assume_43 : decode cX8_assume 43 = .ok (.aload_n 0, 1) := by decide +kernel
theorem dX8_assume_44 : decode cX8_assume 44 = .ok (.getfield 58, 3) := by decide +kernel
theorem dX8_assume_47 : decode cX8_assume 47 = .ok (.aload_n 0, 1) := by decide +kernel
theorem dX8_assume_48 : decode cX8_assume 48 = .ok (.getfield 202, 3) := by decide +kernel
theorem dX8_assume_51 : decode cX8_assume 51 = .ok (.aload_n 0, 1) := by decide +kernel
theorem dX8_assume_52 : decode cX8_assume 52 = .ok (.getfield 61, 3) := by decide +kernel
theorem dX8_assume_55 : decode cX8_assume 55 = .ok (.iastore, 1) := by decide +kernel
theorem dX8_assume_56 : decode cX8_assume 56 = .ok (.aload_n 0, 1) := by decide +kernel
theorem dX8_assume_57 : decode cX8_assume 57 = .ok (.getfield 52, 3) := by decide +kernel
theorem dX8_assume_60 : decode cX8_assume 60 = .ok (.aload_n 0, 1) := by decide +kernel
theorem dX8_assume_61 : decode cX8_assume 61 = .ok (.getfield 202, 3) := by decide +kernel
theorem dX8_assume_64 : decode cX8_assume 64 = .ok (.aload_n 0, 1) := by decide +kernel
theorem dX8_assume_65 : decode cX8_assume 65 = .ok (.getfield 199, 3) := by decide +kernel
theorem dX8_assume_68 : decode cX8_assume 68 = .ok (.iastore, 1) := by decide +kernel
theorem dX8_assume_69 : decode cX8_assume 69 = .ok (.aload_n 0, 1) := by decide +kernel
theorem dX8_assume_70 : decode cX8_assume 70 = .ok (.getfield 55, 3) := by decide +kernel
theorem dX8_assume_73 : decode cX8_assume 73 = .ok (.aload_n 0, 1) := by decide +kernel
theorem dX8_assume_74 : decode cX8_assume 74 = .ok (.getfield 202, 3) := by decide +kernel
theorem dX8_assume_77 : decode cX8_assume 77 = .ok (.iconst (-1), 1) := by decide +kernel
theorem dX8_assume_78 : decode cX8_assume 78 = .ok (.iastore, 1) := by decide +kernel
theorem dX8_assume_79 : decode cX8_assume 79 = .ok (.aload_n 0, 1) := by decide +kernel
theorem dX8_assume_80 : decode cX8_assume 80 = .ok (.aload_n 0, 1) := by decide +kernel
theorem dX8_assume_81 : decode cX8_assume 81 = .ok (.getfield 202, 3) := by decide +kernel
theorem dX8_assume_84 : decode cX8_assume 84 = .ok (.putfield 61, 3) := by decide +kernel
theorem dX8_assume_87 : decode cX8_assume 87 = .ok (.aload_n 0, 1) := by decide +kernel
theorem dX8_assume_88 : decode cX8_assume 88 = .ok (.dup, 1) := by decide +kernel
theorem dX8_assume_89 : decode cX8_assume 89 = .ok (.getfield 202, 3) := by decide +kernel
theorem dX8_assume_92 : decode cX8_assume 92 = .ok (.iconst 1, 1) := by decide +kernel
theorem dX8_assume_93 : decode cX8_assume 93 = .ok (.iadd, 1) := by decide +kernel
theorem dX8_assume_94 : decode cX8_assume 94 = .ok (.putfield 202, 3) := by decide +kernel
theorem dX8_assume_97 : decode cX8_assume 97 = .ok (.aload_n 0, 1) := by decide +kernel
theorem dX8_assume_98 : decode cX8_assume 98 = .ok (.iload_n 1, 1) := by decide +kernel
theorem dX8_assume_99 : decode cX8_assume 99 = .ok (.bipush 14, 2) := by decide +kernel
theorem dX8_assume_101 : decode cX8_assume 101 = .ok (.iconst 0, 1) := by decide +kernel
theorem dX8_assume_102 : decode cX8_assume 102 = .ok (.iconst 0, 1) := by decide +kernel
theorem dX8_assume_103 : decode cX8_assume 103 = .ok (.iconst 0, 1) := by decide +kernel
theorem dX8_assume_104 : decode cX8_assume 104 = .ok (.invokevirtual 214, 3) := by decide +kernel
theorem dX8_assume_107 : decode cX8_assume 107 = .ok (.ireturn, 1) := by decide +kernel
theorem dX8_close_0 : decode cX8_close 0 = .ok (.aload_n 0, 1) := by decide +kernel
theorem dX8_close_1 : decode cX8_close 1 = .ok (.iconst 0, 1) := by decide +kernel
theorem dX8_close_2 : decode cX8_close 2 = .ok (.putfield 106, 3) := by decide +kernel
theorem dX8_close_5 : decode cX8_close 5 = .ok (.aload_n 0, 1) := by decide +kernel
theorem dX8_close_6 : decode cX8_close 6 = .ok (.getfield 61, 3) := by decide +kernel
theorem dX8_close_9 : decode cX8_close 9 = .ok (.iconst (-1), 1) := by decide +kernel
theorem dX8_close_10 : decode cX8_close 10 = .ok (.if_icmp .ne 9, 3) := by decide +kernel
theorem dX8_close_13 : decode cX8_close 13 = .ok (.aload_n 0, 1) := by decide +kernel
theorem dX8_close_14 : decode cX8_close 14 = .ok (.iconst 1, 1) := by decide +kernel
theorem dX8_close_15 : decode cX8_close 15 = .ok (.invokevirtual 119, 3) := by decide +kernel
theorem dX8_close_18 : decode cX8_close 18 = .ok (.ireturn, 1) := by decide +kernel
theorem dX8_close_19 : decode cX8_close 19 = .ok (.aload_n 0, 1) := by decide +kernel
theorem dX8_close_20 : decode cX8_close 20 = .ok (.getfield 61, 3) := by decide +kernel
theorem dX8_close_23 : decode cX8_close 23 = .ok (.istore_n 1, 1) := by decide +kernel
theorem dX8_close_24 : decode cX8_close 24 = .ok (.iconst 0, 1) := by decide +kernel
theorem dX8_close_25 : decode cX8_close 25 = .ok (.istore_n 2, 1) := by decide +kernel
theorem dX8_close_26 : decode cX8_close 26 = .ok (.iload_n 2, 1) := by decide +kernel
theorem dX8_close_27 : decode cX8_close 27 = .ok (.aload_n 0, 1) := by decide +kernel
theorem dX8_close_28 : decode cX8_close 28 = .ok (.getfield 199, 3) := by decide +kernel
theorem dX8_close_31 : decode cX8_close 31 = .ok (.if_icmp .ge 26, 3) := by decide +kernel
theorem dX8_close_34 : decode cX8_close 34 = .ok (.aload_n 0, 1) := by decide +kernel
theorem dX8_close_35 : decode cX8_close 35 = .ok (.getfield 49, 3) := by decide +kernel
theorem dX8_close_38 : decode cX8_close 38 = .ok (.iload_n 2, 1) := by decide +kernel
theorem dX8_close_39 : decode cX8_close 39 = .ok (.iaload, 1) := by decide +kernel
theorem dX8_close_40 : decode cX8_close 40 = .ok (.iload_n 1, 1) := by decide +kernel
theorem dX8_close_41 : decode cX8_close 41 = .ok (.if_icmp .ne 10, 3) := by decide +kernel
theorem dX8_close_44 : decode cX8_close 44 = .ok (.aload_n 0, 1) := by decide +kernel
theorem dX8_close_45 : decode cX8_close 45 = .ok (.getfield 55, 3) := by decide +kernel
theorem dX8_close_48 : decode cX8_close 48 = .ok (.iload_n 1, 1) := by decide +kernel
theorem dX8_close_49 : decode cX8_close 49 = .ok (.iload_n 2, 1) := by decide +kernel
theorem dX8_close_50 : decode cX8_close 50 = .ok (.iastore, 1) := by decide +kernel
theorem dX8_close_51 : decode cX8_close 51 = .ok (.iinc 2 1, 3) := by decide +kernel
theorem dX8_close_54 : decode cX8_close 54 = .ok (.goto (-28), 3) := by decide +kernel
theorem dX8_close_57 : decode cX8_close 57 = .ok (.aload_n 0, 1) := by decide +kernel
theorem dX8_close_58 : decode cX8_close 58 = .ok (.getfield 64, 3) := by decide +kernel
theorem dX8_close_61 : decode cX8_close 61 = .ok (.aload_n 0, 1) := by decide +kernel
theorem dX8_close_62 : decode cX8_close 62 = .ok (.getfield 205, 3) := by decide +kernel
theorem dX8_close_65 : decode cX8_close 65 = .ok (.iconst (-1), 1) := by decide +kernel
theorem dX8_close_66 : decode cX8_close 66 = .ok (.iload_n 1, 1) := by decide +kernel
theorem dX8_close_67 : decode cX8_close 67 = .ok (.isub, 1) := by decide +kernel
theorem dX8_close_68 : decode cX8_close 68 = .ok (.iastore, 1) := by decide +kernel
theorem dX8_close_69 : decode cX8_close 69 = .ok (.aload_n 0, 1) := by decide +kernel
theorem dX8_close_70 : decode cX8_close 70 = .ok (.dup, 1) := by decide +kernel
theorem dX8_close_71 : decode cX8_close 71 = .ok (.getfield 205, 3) := by decide +kernel
theorem dX8_close_74 : decode cX8_close 74 = .ok (.iconst 1, 1) := by decide +kernel
theorem dX8_close_75 : decode cX8_close 75 = .ok (.iadd, 1) := by decide +kernel
theorem dX8_close_76 : decode cX8_close 76 = .ok (.putfield 205, 3) := by decide +kernel
theorem dX8_close_79 : decode cX8_close 79 = .ok (.aload_n 0, 1) := by decide +kernel
theorem dX8_close_80 : decode cX8_close 80 = .ok (.aload_n 0, 1) := by decide +kernel
theorem dX8_close_81 : decode cX8_close 81 = .ok (.getfield 58, 3) := by decide +kernel
theorem dX8_close_84 : decode cX8_close 84 = .ok (.iload_n 1, 1) := by decide +kernel
theorem dX8_close_85 : decode cX8_close 85 = .ok (.iaload, 1) := by decide +kernel
theorem dX8_close_86 : decode cX8_close 86 = .ok (.putfield 61, 3) := by decide +kernel
theorem dX8_close_89 : decode cX8_close 89 = .ok (.iload_n 1, 1) := by decide +kernel
theorem dX8_close_90 : decode cX8_close 90 = .ok (.ireturn, 1) := by decide +kernel
theorem dX8_areOpen_0 : decode cX8_areOpen 0 = .ok (.iload_n 1, 1) := by decide +kernel
theorem dX8_areOpen_1 : decode cX8_areOpen 1 = .ok (.istore_n 2, 1) := by decide +kernel
theorem dX8_areOpen_2 : decode cX8_areOpen 2 = .ok (.iload_n 2, 1) := by decide +kernel
theorem dX8_areOpen_3 : decode cX8_areOpen 3 = .ok (.iconst (-1), 1) := by decide +kernel
theorem dX8_areOpen_4 : decode cX8_areOpen 4 = .ok (.if_icmp .eq 25, 3) := by decide +kernel
theorem dX8_areOpen_7 : decode cX8_areOpen 7 = .ok (.aload_n 0, 1) := by decide +kernel
theorem dX8_areOpen_8 : decode cX8_areOpen 8 = .ok (.getfield 55, 3) := by decide +kernel
theorem dX8_areOpen_11 : decode cX8_areOpen 11 = .ok (.iload_n 2, 1) := by decide +kernel
theorem dX8_areOpen_12 : decode cX8_areOpen 12 = .ok (.iaload, 1) := by decide +kernel
theorem dX8_areOpen_13 : decode cX8_areOpen 13 = .ok (.iconst (-1), 1) := by decide +kernel
theorem dX8_areOpen_14 : decode cX8_areOpen 14 = .ok (.if_icmp .eq 5, 3) := by decide +kernel
theorem dX8_areOpen_17 : decode cX8_areOpen 17 = .ok (.iconst 0, 1) := by decide +kernel
theorem dX8_areOpen_18 : decode cX8_areOpen 18 = .ok (.ireturn, 1) := by decide +kernel
theorem dX8_areOpen_19 : decode cX8_areOpen 19 = .ok (.aload_n 0, 1) := by decide +kernel
theorem dX8_areOpen_20 : decode cX8_areOpen 20 = .ok (.getfield 58, 3) := by decide +kernel
theorem dX8_areOpen_23 : decode cX8_areOpen 23 = .ok (.iload_n 2, 1) := by decide +kernel
theorem dX8_areOpen_24 : decode cX8_areOpen 24 = .ok (.iaload, 1) := by decide +kernel
theorem dX8_areOpen_25 : decode cX8_areOpen 25 = .ok (.istore_n 2, 1) := by decide +kernel
theorem dX8_areOpen_26 : decode cX8_areOpen 26 = .ok (.goto (-24), 3) := by decide +kernel
theorem dX8_areOpen_29 : decode cX8_areOpen 29 = .ok (.iconst 1, 1) := by decide +kernel
theorem dX8_areOpen_30 : decode cX8_areOpen 30 = .ok (.ireturn, 1) := by decide +kernel
theorem dX8_isLine_0 : decode cX8_isLine 0 = .ok (.iload_n 1, 1) := by decide +kernel
theorem dX8_isLine_1 : decode cX8_isLine 1 = .ok (.iconst 0, 1) := by decide +kernel
theorem dX8_isLine_2 : decode cX8_isLine 2 = .ok (.aload_n 0, 1) := by decide +kernel
theorem dX8_isLine_3 : decode cX8_isLine 3 = .ok (.getfield 199, 3) := by decide +kernel
theorem dX8_isLine_6 : decode cX8_isLine 6 = .ok (.iconst 1, 1) := by decide +kernel
theorem dX8_isLine_7 : decode cX8_isLine 7 = .ok (.isub, 1) := by decide +kernel
theorem dX8_isLine_8 : decode cX8_isLine 8 = .ok (.invokestatic 112, 3) := by decide +kernel
theorem dX8_isLine_11 : decode cX8_isLine 11 = .ok (.ifCond .eq 20, 3) := by decide +kernel
theorem dX8_isLine_14 : decode cX8_isLine 14 = .ok (.aload_n 0, 1) := by decide +kernel
theorem dX8_isLine_15 : decode cX8_isLine 15 = .ok (.aload_n 0, 1) := by decide +kernel
theorem dX8_isLine_16 : decode cX8_isLine 16 = .ok (.getfield 49, 3) := by decide +kernel
theorem dX8_isLine_19 : decode cX8_isLine 19 = .ok (.iload_n 1, 1) := by decide +kernel
theorem dX8_isLine_20 : decode cX8_isLine 20 = .ok (.iaload, 1) := by decide +kernel
theorem dX8_isLine_21 : decode cX8_isLine 21 = .ok (.invokevirtual 221, 3) := by decide +kernel
theorem dX8_isLine_24 : decode cX8_isLine 24 = .ok (.ifCond .eq 7, 3) := by decide +kernel
theorem dX8_isLine_27 : decode cX8_isLine 27 = .ok (.iconst 1, 1) := by decide +kernel
theorem dX8_isLine_28 : decode cX8_isLine 28 = .ok (.goto 4, 3) := by decide +kernel
theorem dX8_isLine_31 : decode cX8_isLine 31 = .ok (.iconst 0, 1) := by decide +kernel
theorem dX8_isLine_32 : decode cX8_isLine 32 = .ok (.ireturn, 1) := by decide +kernel
theorem dX8_isBox_0 : decode cX8_isBox 0 = .ok (.iload_n 1, 1) := by decide +kernel
theorem dX8_isBox_1 : decode cX8_isBox 1 = .ok (.iconst 0, 1) := by decide +kernel
theorem dX8_isBox_2 : decode cX8_isBox 2 = .ok (.aload_n 0, 1) := by decide +kernel
theorem dX8_isBox_3 : decode cX8_isBox 3 = .ok (.getfield 202, 3) := by decide +kernel
theorem dX8_isBox_6 : decode cX8_isBox 6 = .ok (.iconst 1, 1) := by decide +kernel
theorem dX8_isBox_7 : decode cX8_isBox 7 = .ok (.isub, 1) := by decide +kernel
theorem dX8_isBox_8 : decode cX8_isBox 8 = .ok (.invokestatic 112, 3) := by decide +kernel
theorem dX8_isBox_11 : decode cX8_isBox 11 = .ok (.ifCond .eq 30, 3) := by decide +kernel
theorem dX8_isBox_14 : decode cX8_isBox 14 = .ok (.aload_n 0, 1) := by decide +kernel
theorem dX8_isBox_15 : decode cX8_isBox 15 = .ok (.getfield 55, 3) := by decide +kernel
theorem dX8_isBox_18 : decode cX8_isBox 18 = .ok (.iload_n 1, 1) := by decide +kernel
theorem dX8_isBox_19 : decode cX8_isBox 19 = .ok (.iaload, 1) := by decide +kernel
theorem dX8_isBox_20 : decode cX8_isBox 20 = .ok (.iconst (-1), 1) := by decide +kernel
theorem dX8_isBox_21 : decode cX8_isBox 21 = .ok (.if_icmp .eq 20, 3) := by decide +kernel
theorem dX8_isBox_24 : decode cX8_isBox 24 = .ok (.aload_n 0, 1) := by decide +kernel
theorem dX8_isBox_25 : decode cX8_isBox 25 = .ok (.aload_n 0, 1) := by decide +kernel
theorem dX8_isBox_26 : decode cX8_isBox 26 = .ok (.getfield 58, 3) := by decide +kernel
theorem dX8_isBox_29 : decode cX8_isBox 29 = .ok (.iload_n 1, 1) := by decide +kernel
theorem dX8_isBox_30 : decode cX8_isBox 30 = .ok (.iaload, 1) := by decide +kernel
theorem dX8_isBox_31 : decode cX8_isBox 31 = .ok (.invokevirtual 221, 3) := by decide +kernel
theorem dX8_isBox_34 : decode cX8_isBox 34 = .ok (.ifCond .eq 7, 3) := by decide +kernel
theorem dX8_isBox_37 : decode cX8_isBox 37 = .ok (.iconst 1, 1) := by decide +kernel
theorem dX8_isBox_38 : decode cX8_isBox 38 = .ok (.goto 4, 3) := by decide +kernel
theorem dX8_isBox_41 : decode cX8_isBox 41 = .ok (.iconst 0, 1) := by decide +kernel
theorem dX8_isBox_42 : decode cX8_isBox 42 = .ok (.ireturn, 1) := by decide +kernel
theorem dX8_needs_0 : decode cX8_needs 0 = .ok (.iload_n 1, 1) := by decide +kernel
theorem dX8_needs_1 : decode cX8_needs 1 = .ok (.bipush 13, 2) := by decide +kernel
theorem dX8_needs_3 : decode cX8_needs 3 = .ok (.if_icmp .ge 11, 3) := by decide +kernel
theorem dX8_needs_6 : decode cX8_needs 6 = .ok (.getstatic 224, 3) := by decide +kernel
theorem dX8_needs_9 : decode cX8_needs 9 = .ok (.iload_n 1, 1) := by decide +kernel
theorem dX8_needs_10 : decode cX8_needs 10 = .ok (.iaload, 1) := by decide +kernel
theorem dX8_needs_11 : decode cX8_needs 11 = .ok (.goto 58, 3) := by decide +kernel
theorem dX8_needs_14 : decode cX8_needs 14 = .ok (.iload_n 2, 1) := by decide +kernel
theorem dX8_needs_15 : decode cX8_needs 15 = .ok (.iconst 0, 1) := by decide +kernel
theorem dX8_needs_16 : decode cX8_needs 16 = .ok (.aload_n 0, 1) := by decide +kernel
theorem dX8_needs_17 : decode cX8_needs 17 = .ok (.getfield 227, 3) := by decide +kernel
theorem dX8_needs_20 : decode cX8_needs 20 = .ok (.iconst 1, 1) := by decide +kernel
theorem dX8_needs_21 : decode cX8_needs 21 = .ok (.isub, 1) := by decide +kernel
theorem dX8_needs_22 : decode cX8_needs 22 = .ok (.invokestatic 112, 3) := by decide +kernel
theorem dX8_needs_25 : decode cX8_needs 25 = .ok (.ifCond .eq 41, 3) := by decide +kernel
theorem dX8_needs_28 : decode cX8_needs 28 = .ok (.sipush 300, 3) := by decide +kernel
theorem dX8_needs_31 : decode cX8_needs 31 = .ok (.aload_n 0, 1) := by decide +kernel
theorem dX8_needs_32 : decode cX8_needs 32 = .ok (.getfield 70, 3) := by decide +kernel
theorem dX8_needs_35 : decode cX8_needs 35 = .ok (.iload_n 2, 1) := by decide +kernel
theorem dX8_needs_36 : decode cX8_needs 36 = .ok (.iaload, 1) := by decide +kernel
theorem dX8_needs_37 : decode cX8_needs 37 = .ok (.ifCond .le 8, 3) := by decide +kernel
theorem dX8_needs_40 : decode cX8_needs 40 = .ok (.bipush 10, 2) := by decide +kernel
theorem dX8_needs_42 : decode cX8_needs 42 = .ok (.goto 4, 3) := by decide +kernel
theorem dX8_needs_45 : decode cX8_needs 45 = .ok (.iconst 0, 1) := by decide +kernel
theorem dX8_needs_46 : decode cX8_needs 46 = .ok (.iadd, 1) := by decide +kernel
theorem dX8_needs_47 : decode cX8_needs 47 = .ok (.aload_n 0, 1) := by decide +kernel
theorem dX8_needs_48 : decode cX8_needs 48 = .ok (.getfield 70, 3) := by decide +kernel
theorem dX8_needs_51 : decode cX8_needs 51 = .ok (.iload_n 2, 1) := by decide +kernel
theorem dX8_needs_52 : decode cX8_needs 52 = .ok (.iaload, 1) := by decide +kernel
theorem dX8_needs_53 : decode cX8_needs 53 = .ok (.iconst 1, 1) := by decide +kernel
theorem dX8_needs_54 : decode cX8_needs 54 = .ok (.if_icmp .le 7, 3) := by decide +kernel
theorem dX8_needs_57 : decode cX8_needs 57 = .ok (.iconst 1, 1) := by decide +kernel
theorem dX8_needs_58 : decode cX8_needs 58 = .ok (.goto 4, 3) := by decide +kernel
theorem dX8_needs_61 : decode cX8_needs 61 = .ok (.iconst 0, 1) := by decide +kernel
theorem dX8_needs_62 : decode cX8_needs 62 = .ok (.iadd, 1) := by decide +kernel
theorem dX8_needs_63 : decode cX8_needs 63 = .ok (.goto 6, 3) := by decide +kernel
theorem dX8_needs_66 : decode cX8_needs 66 = .ok (.sipush 300, 3) := by decide +kernel
theorem dX8_needs_69 : decode cX8_needs 69 = .ok (.ireturn, 1) := by decide +kernel
theorem dX8_isReference_0 : decode cX8_isReference 0 = .ok (.iload_n 1, 1) := by decide +kernel
theorem dX8_isReference_1 : decode cX8_isReference 1 = .ok (.ifCond .eq 49, 3) := by decide +kernel
theorem dX8_isReference_4 : decode cX8_isReference 4 = .ok (.iload_n 1, 1) := by decide +kernel
theorem dX8_isReference_5 : decode cX8_isReference 5 = .ok (.iconst 1, 1) := by decide +kernel
theorem dX8_isReference_6 : decode cX8_isReference 6 = .ok (.if_icmp .ne 14, 3) := by decide +kernel
theorem dX8_isReference_9 : decode cX8_isReference 9 = .ok (.aload_n 0, 1) := by decide +kernel
theorem dX8_isReference_10 : decode cX8_isReference 10 = .ok (.iload_n 2, 1) := by decide +kernel
theorem dX8_isReference_11 : decode cX8_isReference 11 = .ok (.invokevirtual 230, 3) := by decide +kernel
theorem dX8_isReference_14 : decode cX8_isReference 14 = .ok (.ifCond .eq 40, 3) := by decide +kernel
theorem dX8_isReference_17 : decode cX8_isReference 17 = .ok (.goto 33, 3) := by decide +kernel
theorem dX8_isReference_20 : decode cX8_isReference 20 = .ok (.iload_n 1, 1) := by decide +kernel
theorem dX8_isReference_21 : decode cX8_isReference 21 = .ok (.iconst 2, 1) := by decide +kernel
theorem dX8_isReference_22 : decode cX8_isReference 22 = .ok (.if_icmp .ne 14, 3) := by decide +kernel
theorem dX8_isReference_25 : decode cX8_isReference 25 = .ok (.aload_n 0, 1) := by decide +kernel
theorem dX8_isReference_26 : decode cX8_isReference 26 = .ok (.iload_n 2, 1) := by decide +kernel
theorem dX8_isReference_27 : decode cX8_isReference 27 = .ok (.invokevirtual 233, 3) := by decide +kernel
theorem dX8_isReference_30 : decode cX8_isReference 30 = .ok (.ifCond .eq 24, 3) := by decide +kernel
theorem dX8_isReference_33 : decode cX8_isReference 33 = .ok (.goto 17, 3) := by decide +kernel
theorem dX8_isReference_36 : decode cX8_isReference 36 = .ok (.iload_n 2, 1) := by decide +kernel
theorem dX8_isReference_37 : decode cX8_isReference 37 = .ok (.iconst 0, 1) := by decide +kernel
theorem dX8_isReference_38 : decode cX8_isReference 38 = .ok (.aload_n 0, 1) := by decide +kernel
theorem dX8_isReference_39 : decode cX8_isReference 39 = .ok (.getfield 227, 3) := by decide +kernel
theorem dX8_isReference_42 : decode cX8_isReference 42 = .ok (.iconst 1, 1) := by decide +kernel
theorem dX8_isReference_43 : decode cX8_isReference 43 = .ok (.isub, 1) := by decide +kernel
theorem dX8_isReference_44 : decode cX8_isReference 44 = .ok (.invokestatic 112, 3) := by decide +kernel
theorem dX8_isReference_47 : decode cX8_isReference 47 = .ok (.ifCond .eq 7, 3) := by decide +kernel
theorem dX8_isReference_50 : decode cX8_isReference 50 = .ok (.iconst 1, 1) := by decide +kernel
theorem dX8_isReference_51 : decode cX8_isReference 51 = .ok (.goto 4, 3) := by decide +kernel
theorem dX8_isReference_54 : decode cX8_isReference 54 = .ok (.iconst 0, 1) := by decide +kernel
theorem dX8_isReference_55 : decode cX8_isReference 55 = .ok (.ireturn, 1) := by decide +kernel
theorem dX8_clearStands_0 : decode cX8_clearStands 0 = .ok (.iconst 0, 1) := by decide +kernel
theorem dX8_clearStands_1 : decode cX8_clearStands 1 = .ok (.istore_n 1, 1) := by decide +kernel
theorem dX8_clearStands_2 : decode cX8_clearStands 2 = .ok (.iload_n 1, 1) := by decide +kernel
theorem dX8_clearStands_3 : decode cX8_clearStands 3 = .ok (.aload_n 0, 1) := by decide +kernel
theorem dX8_clearStands_4 : decode cX8_clearStands 4 = .ok (.getfield 109, 3) := by decide +kernel
theorem dX8_clearStands_7 : decode cX8_clearStands 7 = .ok (.if_icmp .ge 16, 3) := by decide +kernel
theorem dX8_clearStands_10 : decode cX8_clearStands 10 = .ok (.aload_n 0, 1) := by decide +kernel
theorem dX8_clearStands_11 : decode cX8_clearStands 11 = .ok (.getfield 97, 3) := by decide +kernel
theorem dX8_clearStands_14 : decode cX8_clearStands 14 = .ok (.iload_n 1, 1) := by decide +kernel
theorem dX8_clearStands_15 : decode cX8_clearStands 15 = .ok (.iconst (-1), 1) := by decide +kernel
theorem dX8_clearStands_16 : decode cX8_clearStands 16 = .ok (.iastore, 1) := by decide +kernel
theorem dX8_clearStands_17 : decode cX8_clearStands 17 = .ok (.iinc 1 1, 3) := by decide +kernel
theorem dX8_clearStands_20 : decode cX8_clearStands 20 = .ok (.goto (-18), 3) := by decide +kernel
theorem dX8_clearStands_23 : decode cX8_clearStands 23 = .ok (.return_, 1) := by decide +kernel
theorem dX8_becomes_0 : decode cX8_becomes 0 = .ok (.aload_n 0, 1) := by decide +kernel
theorem dX8_becomes_1 : decode cX8_becomes 1 = .ok (.getfield 97, 3) := by decide +kernel
theorem dX8_becomes_4 : decode cX8_becomes 4 = .ok (.iload_n 1, 1) := by decide +kernel
theorem dX8_becomes_5 : decode cX8_becomes 5 = .ok (.iaload, 1) := by decide +kernel
theorem dX8_becomes_6 : decode cX8_becomes 6 = .ok (.iconst (-1), 1) := by decide +kernel
theorem dX8_becomes_7 : decode cX8_becomes 7 = .ok (.if_icmp .eq 19, 3) := by decide +kernel
theorem dX8_becomes_10 : decode cX8_becomes 10 = .ok (.aload_n 0, 1) := by decide +kernel
theorem dX8_becomes_11 : decode cX8_becomes 11 = .ok (.getfield 97, 3) := by decide +kernel
theorem dX8_becomes_14 : decode cX8_becomes 14 = .ok (.iload_n 1, 1) := by decide +kernel
theorem dX8_becomes_15 : decode cX8_becomes 15 = .ok (.iaload, 1) := by decide +kernel
theorem dX8_becomes_16 : decode cX8_becomes 16 = .ok (.iload_n 2, 1) := by decide +kernel
theorem dX8_becomes_17 : decode cX8_becomes 17 = .ok (.if_icmp .ne 7, 3) := by decide +kernel
theorem dX8_becomes_20 : decode cX8_becomes 20 = .ok (.iconst 1, 1) := by decide +kernel
theorem dX8_becomes_21 : decode cX8_becomes 21 = .ok (.goto 4, 3) := by decide +kernel
theorem dX8_becomes_24 : decode cX8_becomes 24 = .ok (.iconst 0, 1) := by decide +kernel
theorem dX8_becomes_25 : decode cX8_becomes 25 = .ok (.ireturn, 1) := by decide +kernel
theorem dX8_becomes_26 : decode cX8_becomes 26 = .ok (.aload_n 0, 1) := by decide +kernel
theorem dX8_becomes_27 : decode cX8_becomes 27 = .ok (.getfield 20, 3) := by decide +kernel
theorem dX8_becomes_30 : decode cX8_becomes 30 = .ok (.iload_n 1, 1) := by decide +kernel
theorem dX8_becomes_31 : decode cX8_becomes 31 = .ok (.iaload, 1) := by decide +kernel
theorem dX8_becomes_32 : decode cX8_becomes 32 = .ok (.ifCond .eq 76, 3) := by decide +kernel
theorem dX8_becomes_35 : decode cX8_becomes 35 = .ok (.aload_n 0, 1) := by decide +kernel
theorem dX8_becomes_36 : decode cX8_becomes 36 = .ok (.getfield 20, 3) := by decide +kernel
theorem dX8_becomes_39 : decode cX8_becomes 39 = .ok (.iload_n 1, 1) := by decide +kernel
theorem dX8_becomes_40 : decode cX8_becomes 40 = .ok (.iaload, 1) := by decide +kernel
theorem dX8_becomes_41 : decode cX8_becomes 41 = .ok (.aload_n 0, 1) := by decide +kernel
theorem dX8_becomes_42 : decode cX8_becomes 42 = .ok (.getfield 20, 3) := by decide +kernel
theorem dX8_becomes_45 : decode cX8_becomes 45 = .ok (.iload_n 2, 1) := by decide +kernel
theorem dX8_becomes_46 : decode cX8_becomes 46 = .ok (.iaload, 1) := by decide +kernel
theorem dX8_becomes_47 : decode cX8_becomes 47 = .ok (.if_icmp .ne 65, 3) := by decide +kernel
theorem dX8_becomes_50 : decode cX8_becomes 50 = .ok (.aload_n 0, 1) := by decide +kernel
theorem dX8_becomes_51 : decode cX8_becomes 51 = .ok (.getfield 20, 3) := by decide +kernel
theorem dX8_becomes_54 : decode cX8_becomes 54 = .ok (.iload_n 1, 1) := by decide +kernel
theorem dX8_becomes_55 : decode cX8_becomes 55 = .ok (.iaload, 1) := by decide +kernel
theorem dX8_becomes_56 : decode cX8_becomes 56 = .ok (.iconst 2, 1) := by decide +kernel
theorem dX8_becomes_57 : decode cX8_becomes 57 = .ok (.if_icmp .lt 51, 3) := by decide +kernel
theorem dX8_becomes_60 : decode cX8_becomes 60 = .ok (.aload_n 0, 1) := by decide +kernel
theorem dX8_becomes_61 : decode cX8_becomes 61 = .ok (.aload_n 0, 1) := by decide +kernel
theorem dX8_becomes_62 : decode cX8_becomes 62 = .ok (.getfield 23, 3) := by decide +kernel
theorem dX8_becomes_65 : decode cX8_becomes 65 = .ok (.iload_n 1, 1) := by decide +kernel
theorem dX8_becomes_66 : decode cX8_becomes 66 = .ok (.iaload, 1) := by decide +kernel
theorem dX8_becomes_67 : decode cX8_becomes 67 = .ok (.aload_n 0, 1) := by decide +kernel
theorem dX8_becomes_68 : decode cX8_becomes 68 = .ok (.getfield 23, 3) := by decide +kernel
theorem dX8_becomes_71 : decode cX8_becomes 71 = .ok (.iload_n 2, 1) := by decide +kernel
theorem dX8_becomes_72 : decode cX8_becomes 72 = .ok (.iaload, 1) := by decide +kernel
theorem dX8_becomes_73 : decode cX8_becomes 73 = .ok (.invokevirtual 236, 3) := by decide +kernel
theorem dX8_becomes_76 : decode cX8_becomes 76 = .ok (.ifCond .eq 36, 3) := by decide +kernel
theorem dX8_becomes_79 : decode cX8_becomes 79 = .ok (.aload_n 0, 1) := by decide +kernel
theorem dX8_becomes_80 : decode cX8_becomes 80 = .ok (.getfield 20, 3) := by decide +kernel
theorem dX8_becomes_83 : decode cX8_becomes 83 = .ok (.iload_n 1, 1) := by decide +kernel
theorem dX8_becomes_84 : decode cX8_becomes 84 = .ok (.iaload, 1) := by decide +kernel
theorem dX8_becomes_85 : decode cX8_becomes 85 = .ok (.iconst 2, 1) := by decide +kernel
theorem dX8_becomes_86 : decode cX8_becomes 86 = .ok (.if_icmp .eq 22, 3) := by decide +kernel
theorem dX8_becomes_89 : decode cX8_becomes 89 = .ok (.aload_n 0, 1) := by decide +kernel
theorem dX8_becomes_90 : decode cX8_becomes 90 = .ok (.aload_n 0, 1) := by decide +kernel
theorem dX8_becomes_91 : decode cX8_becomes 91 = .ok (.getfield 26, 3) := by decide +kernel
theorem dX8_becomes_94 : decode cX8_becomes 94 = .ok (.iload_n 1, 1) := by decide +kernel
theorem dX8_becomes_95 : decode cX8_becomes 95 = .ok (.iaload, 1) := by decide +kernel
theorem dX8_becomes_96 : decode cX8_becomes 96 = .ok (.aload_n 0, 1) := by decide +kernel
theorem dX8_becomes_97 : decode cX8_becomes 97 = .ok (.getfield 26, 3) := by decide +kernel
theorem dX8_becomes_100 : decode cX8_becomes 100 = .ok (.iload_n 2, 1) := by decide +kernel
theorem dX8_becomes_101 : decode cX8_becomes 101 = .ok (.iaload, 1) := by decide +kernel
theorem dX8_becomes_102 : decode cX8_becomes 102 = .ok (.invokevirtual 236, 3) := by decide +kernel
theorem dX8_becomes_105 : decode cX8_becomes 105 = .ok (.ifCond .eq 7, 3) := by decide +kernel
theorem dX8_becomes_108 : decode cX8_becomes 108 = .ok (.iconst 1, 1) := by decide +kernel
theorem dX8_becomes_109 : decode cX8_becomes 109 = .ok (.goto 4, 3) := by decide +kernel
theorem dX8_becomes_112 : decode cX8_becomes 112 = .ok (.iconst 0, 1) := by decide +kernel
theorem dX8_becomes_113 : decode cX8_becomes 113 = .ok (.istore_n 3, 1) := by decide +kernel
theorem dX8_becomes_114 : decode cX8_becomes 114 = .ok (.iload_n 3, 1) := by decide +kernel
theorem dX8_becomes_115 : decode cX8_becomes 115 = .ok (.ifCond .eq 10, 3) := by decide +kernel
theorem dX8_becomes_118 : decode cX8_becomes 118 = .ok (.aload_n 0, 1) := by decide +kernel
theorem dX8_becomes_119 : decode cX8_becomes 119 = .ok (.getfield 97, 3) := by decide +kernel
theorem dX8_becomes_122 : decode cX8_becomes 122 = .ok (.iload_n 1, 1) := by decide +kernel
theorem dX8_becomes_123 : decode cX8_becomes 123 = .ok (.iload_n 2, 1) := by decide +kernel
theorem dX8_becomes_124 : decode cX8_becomes 124 = .ok (.iastore, 1) := by decide +kernel
theorem dX8_becomes_125 : decode cX8_becomes 125 = .ok (.iload_n 3, 1) := by decide +kernel
theorem dX8_becomes_126 : decode cX8_becomes 126 = .ok (.ireturn, 1) := by decide +kernel
theorem dX8_refusal_0 : decode cX8_refusal 0 = .ok (.aload_n 0, 1) := by decide +kernel
theorem dX8_refusal_1 : decode cX8_refusal 1 = .ok (.iload_n 1, 1) := by decide +kernel
theorem dX8_refusal_2 : decode cX8_refusal 2 = .ok (.iload_n 3, 1) := by decide +kernel
theorem dX8_refusal_3 : decode cX8_refusal 3 = .ok (.invokevirtual 239, 3) := by decide +kernel
theorem dX8_refusal_6 : decode cX8_refusal 6 = .ok (.istore 6, 2) := by decide +kernel
theorem dX8_refusal_8 : decode cX8_refusal 8 = .ok (.aload_n 0, 1) := by decide +kernel
theorem dX8_refusal_9 : decode cX8_refusal 9 = .ok (.iload 6, 2) := by decide +kernel
theorem dX8_refusal_11 : decode cX8_refusal 11 = .ok (.bipush 100, 2) := by decide +kernel
theorem dX8_refusal_13 : decode cX8_refusal 13 = .ok (.idiv, 1) := by decide +kernel
theorem dX8_refusal_14 : decode cX8_refusal 14 = .ok (.iload_n 3, 1) := by decide +kernel
theorem dX8_refusal_15 : decode cX8_refusal 15 = .ok (.invokevirtual 242, 3) := by decide +kernel
theorem dX8_refusal_18 : decode cX8_refusal 18 = .ok (.ifCond .eq 34, 3) := by decide +kernel
theorem dX8_refusal_21 : decode cX8_refusal 21 = .ok (.aload_n 0, 1) := by decide +kernel
theorem dX8_refusal_22 : decode cX8_refusal 22 = .ok (.iload 6, 2) := by decide +kernel
theorem dX8_refusal_24 : decode cX8_refusal 24 = .ok (.bipush 10, 2) := by decide +kernel
theorem dX8_refusal_26 : decode cX8_refusal 26 = .ok (.idiv, 1) := by decide +kernel
theorem dX8_refusal_27 : decode cX8_refusal 27 = .ok (.bipush 10, 2) := by decide +kernel
theorem dX8_refusal_29 : decode cX8_refusal 29 = .ok (.irem, 1) := by decide +kernel
theorem dX8_refusal_30 : decode cX8_refusal 30 = .ok (.iload 4, 2) := by decide +kernel
theorem dX8_refusal_32 : decode cX8_refusal 32 = .ok (.invokevirtual 242, 3) := by decide +kernel
theorem dX8_refusal_35 : decode cX8_refusal 35 = .ok (.ifCond .eq 17, 3) := by decide +kernel
theorem dX8_refusal_38 : decode cX8_refusal 38 = .ok (.aload_n 0, 1) := by decide +kernel
theorem dX8_refusal_39 : decode cX8_refusal 39 = .ok (.iload 6, 2) := by decide +kernel
theorem dX8_refusal_41 : decode cX8_refusal 41 = .ok (.bipush 10, 2) := by decide +kernel
theorem dX8_refusal_43 : decode cX8_refusal 43 = .ok (.irem, 1) := by decide +kernel
theorem dX8_refusal_44 : decode cX8_refusal 44 = .ok (.iload 5, 2) := by decide +kernel
theorem dX8_refusal_46 : decode cX8_refusal 46 = .ok (.invokevirtual 242, 3) := by decide +kernel
theorem dX8_refusal_49 : decode cX8_refusal 49 = .ok (.ifCond .ne 5, 3) := by decide +kernel
theorem dX8_refusal_52 : decode cX8_refusal 52 = .ok (.iconst 1, 1) := by decide +kernel
theorem dX8_refusal_53 : decode cX8_refusal 53 = .ok (.ireturn, 1) := by decide +kernel
theorem dX8_refusal_54 : decode cX8_refusal 54 = .ok (.iload_n 1, 1) := by decide +kernel
theorem dX8_refusal_55 : decode cX8_refusal 55 = .ok (.bipush 13, 2) := by decide +kernel
theorem dX8_refusal_57 : decode cX8_refusal 57 = .ok (.if_icmp .ne 22, 3) := by decide +kernel
theorem dX8_refusal_60 : decode cX8_refusal 60 = .ok (.aload_n 0, 1) := by decide +kernel
theorem dX8_refusal_61 : decode cX8_refusal 61 = .ok (.iload_n 2, 1) := by decide +kernel
theorem dX8_refusal_62 : decode cX8_refusal 62 = .ok (.iload_n 3, 1) := by decide +kernel
theorem dX8_refusal_63 : decode cX8_refusal 63 = .ok (.iload 4, 2) := by decide +kernel
theorem dX8_refusal_65 : decode cX8_refusal 65 = .ok (.iload 5, 2) := by decide +kernel
theorem dX8_refusal_67 : decode cX8_refusal 67 = .ok (.invokevirtual 245, 3) := by decide +kernel
theorem dX8_refusal_70 : decode cX8_refusal 70 = .ok (.ifCond .eq 7, 3) := by decide +kernel
theorem dX8_refusal_73 : decode cX8_refusal 73 = .ok (.iconst 0, 1) := by decide +kernel
theorem dX8_refusal_74 : decode cX8_refusal 74 = .ok (.goto 4, 3) := by decide +kernel
theorem dX8_refusal_77 : decode cX8_refusal 77 = .ok (.iconst 3, 1) := by decide +kernel
theorem dX8_refusal_78 : decode cX8_refusal 78 = .ok (.ireturn, 1) := by decide +kernel
theorem dX8_refusal_79 : decode cX8_refusal 79 = .ok (.iload 6, 2) := by decide +kernel
theorem dX8_refusal_81 : decode cX8_refusal 81 = .ok (.bipush 100, 2) := by decide +kernel
theorem dX8_refusal_83 : decode cX8_refusal 83 = .ok (.idiv, 1) := by decide +kernel
theorem dX8_refusal_84 : decode cX8_refusal 84 = .ok (.iconst 2, 1) := by decide +kernel
theorem dX8_refusal_85 : decode cX8_refusal 85 = .ok (.if_icmp .ne 7, 3) := by decide +kernel
theorem dX8_refusal_88 : decode cX8_refusal 88 = .ok (.iconst 1, 1) := by decide +kernel
theorem dX8_refusal_89 : decode cX8_refusal 89 = .ok (.goto 4, 3) := by decide +kernel
theorem dX8_refusal_92 : decode cX8_refusal 92 = .ok (.iconst 0, 1) := by decide +kernel
theorem dX8_refusal_93 : decode cX8_refusal 93 = .ok (.istore 7, 2) := by decide +kernel
theorem dX8_refusal_95 : decode cX8_refusal 95 = .ok (.iload 7, 2) := by decide +kernel
theorem dX8_refusal_97 : decode cX8_refusal 97 = .ok (.ifCond .eq 17, 3) := by decide +kernel
theorem dX8_refusal_100 : decode cX8_refusal 100 = .ok (.aload_n 0, 1) := by decide +kernel
theorem dX8_refusal_101 : decode cX8_refusal 101 = .ok (.getfield 40, 3) := by decide +kernel
theorem dX8_refusal_104 : decode cX8_refusal 104 = .ok (.aload_n 0, 1) := by decide +kernel
theorem dX8_refusal_105 : decode cX8_refusal 105 = .ok (.getfield 55, 3) := by decide +kernel
theorem dX8_refusal_108 : decode cX8_refusal 108 = .ok (.iload_n 3, 1) := by decide +kernel
theorem dX8_refusal_109 : decode cX8_refusal 109 = .ok (.iaload, 1) := by decide +kernel
theorem dX8_refusal_110 : decode cX8_refusal 110 = .ok (.iaload, 1) := by decide +kernel
theorem dX8_refusal_111 : decode cX8_refusal 111 = .ok (.goto 9, 3) := by decide +kernel
theorem dX8_refusal_114 : decode cX8_refusal 114 = .ok (.aload_n 0, 1) := by decide +kernel
theorem dX8_refusal_115 : decode cX8_refusal 115 = .ok (.getfield 40, 3) := by decide +kernel
theorem dX8_refusal_118 : decode cX8_refusal 118 = .ok (.iload_n 3, 1) := by decide +kernel
theorem dX8_refusal_119 : decode cX8_refusal 119 = .ok (.iaload, 1) := by decide +kernel
theorem dX8_refusal_120 : decode cX8_refusal 120 = .ok (.istore 8, 2) := by decide +kernel
theorem dX8_refusal_122 : decode cX8_refusal 122 = .ok (.aload_n 0, 1) := by decide +kernel
theorem dX8_refusal_123 : decode cX8_refusal 123 = .ok (.getfield 20, 3) := by decide +kernel
theorem dX8_refusal_126 : decode cX8_refusal 126 = .ok (.iload 8, 2) := by decide +kernel
theorem dX8_refusal_128 : decode cX8_refusal 128 = .ok (.iaload, 1) := by decide +kernel
theorem dX8_refusal_129 : decode cX8_refusal 129 = .ok (.istore 9, 2) := by decide +kernel
theorem dX8_refusal_131 : decode cX8_refusal 131 = .ok (.iload 6, 2) := by decide +kernel
theorem dX8_refusal_133 : decode cX8_refusal 133 = .ok (.bipush 10, 2) := by decide +kernel
theorem dX8_refusal_135 : decode cX8_refusal 135 = .ok (.idiv, 1) := by decide +kernel
theorem dX8_refusal_136 : decode cX8_refusal 136 = .ok (.bipush 10, 2) := by decide +kernel
theorem dX8_refusal_138 : decode cX8_refusal 138 = .ok (.irem, 1) := by decide +kernel
theorem dX8_refusal_139 : decode cX8_refusal 139 = .ok (.iconst 1, 1) := by decide +kernel
theorem dX8_refusal_140 : decode cX8_refusal 140 = .ok (.if_icmp .ne 13, 3) := by decide +kernel
theorem dX8_refusal_143 : decode cX8_refusal 143 = .ok (.aload_n 0, 1) := by decide +kernel
theorem dX8_refusal_144 : decode cX8_refusal 144 = .ok (.getfield 40, 3) := by decide +kernel
theorem dX8_refusal_147 : decode cX8_refusal 147 = .ok (.iload 4, 2) := by decide +kernel
theorem dX8_refusal_149 : decode cX8_refusal 149 = .ok (.iaload, 1) := by decide +kernel
theorem dX8_refusal_150 : decode cX8_refusal 150 = .ok (.goto 4, 3) := by decide +kernel
theorem dX8_refusal_153 : decode cX8_refusal 153 = .ok (.iconst (-1), 1) := by decide +kernel
theorem dX8_refusal_154 : decode cX8_refusal 154 = .ok (.istore 10, 2) := by decide +kernel
theorem dX8_refusal_156 : decode cX8_refusal 156 = .ok (.iconst 1, 1) := by decide +kernel
theorem dX8_refusal_157 : decode cX8_refusal 157 = .ok (.istore 11, 2) := by decide +kernel
theorem dX8_refusal_159 : decode cX8_refusal 159 = .ok (.iload_n 1, 1) := by decide +kernel
theorem dX8_refusal_160 : decode cX8_refusal 160 = .ok (.iconst 2, 1) := by decide +kernel
theorem dX8_refusal_161 : decode cX8_refusal 161 = .ok (.if_icmp .eq 8, 3) := by decide +kernel
theorem dX8_refusal_164 : decode cX8_refusal 164 = .ok (.iload_n 1, 1) := by decide +kernel
theorem dX8_refusal_165 : decode cX8_refusal 165 = .ok (.iconst 3, 1) := by decide +kernel
theorem dX8_refusal_166 : decode cX8_refusal 166 = .ok (.if_icmp .ne 16, 3) := by decide +kernel
theorem dX8_refusal_169 : decode cX8_refusal 169 = .ok (.iload 9, 2) := by decide +kernel
theorem dX8_refusal_171 : decode cX8_refusal 171 = .ok (.iconst 3, 1) := by decide +kernel
theorem dX8_refusal_172 : decode cX8_refusal 172 = .ok (.if_icmp .ne 7, 3) := by decide +kernel
theorem dX8_refusal_175 : decode cX8_refusal 175 = .ok (.iconst 1, 1) := by decide +kernel
theorem dX8_refusal_176 : decode cX8_refusal 176 = .ok (.goto 4, 3) := by decide +kernel
theorem dX8_refusal_179 : decode cX8_refusal 179 = .ok (.iconst 0, 1) := by decide +kernel
theorem dX8_refusal_180 : decode cX8_refusal 180 = .ok (.istore 11, 2) := by decide +kernel
theorem dX8_refusal_182 : decode cX8_refusal 182 = .ok (.iload_n 1, 1) := by decide +kernel
theorem dX8_refusal_183 : decode cX8_refusal 183 = .ok (.bipush 6, 2) := by decide +kernel
theorem dX8_refusal_185 : decode cX8_refusal 185 = .ok (.if_icmp .ne 16, 3) := by decide +kernel
theorem dX8_refusal_188 : decode cX8_refusal 188 = .ok (.iload 9, 2) := by decide +kernel
theorem dX8_refusal_190 : decode cX8_refusal 190 = .ok (.iconst 4, 1) := by decide +kernel
theorem dX8_refusal_191 : decode cX8_refusal 191 = .ok (.if_icmp .ne 7, 3) := by decide +kernel
theorem dX8_refusal_194 : decode cX8_refusal 194 = .ok (.iconst 1, 1) := by decide +kernel
theorem dX8_refusal_195 : decode cX8_refusal 195 = .ok (.goto 4, 3) := by decide +kernel
theorem dX8_refusal_198 : decode cX8_refusal 198 = .ok (.iconst 0, 1) := by decide +kernel
theorem dX8_refusal_199 : decode cX8_refusal 199 = .ok (.istore 11, 2) := by decide +kernel
theorem dX8_refusal_201 : decode cX8_refusal 201 = .ok (.iload_n 1, 1) := by decide +kernel
theorem dX8_refusal_202 : decode cX8_refusal 202 = .ok (.bipush 8, 2) := by decide +kernel
theorem dX8_refusal_204 : decode cX8_refusal 204 = .ok (.if_icmp .ne 16, 3) := by decide +kernel
theorem dX8_refusal_207 : decode cX8_refusal 207 = .ok (.iload 9, 2) := by decide +kernel
theorem dX8_refusal_209 : decode cX8_refusal 209 = .ok (.iconst 5, 1) := by decide +kernel
theorem dX8_refusal_210 : decode cX8_refusal 210 = .ok (.if_icmp .ne 7, 3) := by decide +kernel
theorem dX8_refusal_213 : decode cX8_refusal 213 = .ok (.iconst 1, 1) := by decide +kernel
theorem dX8_refusal_214 : decode cX8_refusal 214 = .ok (.goto 4, 3) := by decide +kernel
theorem dX8_refusal_217 : decode cX8_refusal 217 = .ok (.iconst 0, 1) := by decide +kernel
theorem dX8_refusal_218 : decode cX8_refusal 218 = .ok (.istore 11, 2) := by decide +kernel
theorem dX8_refusal_220 : decode cX8_refusal 220 = .ok (.iload_n 1, 1) := by decide +kernel
theorem dX8_refusal_221 : decode cX8_refusal 221 = .ok (.bipush 9, 2) := by decide +kernel
theorem dX8_refusal_223 : decode cX8_refusal 223 = .ok (.if_icmp .eq 9, 3) := by decide +kernel
theorem dX8_refusal_226 : decode cX8_refusal 226 = .ok (.iload_n 1, 1) := by decide +kernel
theorem dX8_refusal_227 : decode cX8_refusal 227 = .ok (.bipush 11, 2) := by decide +kernel
theorem dX8_refusal_229 : decode cX8_refusal 229 = .ok (.if_icmp .ne 16, 3) := by decide +kernel
theorem dX8_refusal_232 : decode cX8_refusal 232 = .ok (.iload 9, 2) := by decide +kernel
theorem dX8_refusal_234 : decode cX8_refusal 234 = .ok (.iconst 1, 1) := by decide +kernel
theorem dX8_refusal_235 : decode cX8_refusal 235 = .ok (.if_icmp .ne 7, 3) := by decide +kernel
theorem dX8_refusal_238 : decode cX8_refusal 238 = .ok (.iconst 1, 1) := by decide +kernel
theorem dX8_refusal_239 : decode cX8_refusal 239 = .ok (.goto 4, 3) := by decide +kernel
theorem dX8_refusal_242 : decode cX8_refusal 242 = .ok (.iconst 0, 1) := by decide +kernel
theorem dX8_refusal_243 : decode cX8_refusal 243 = .ok (.istore 11, 2) := by decide +kernel
theorem dX8_refusal_245 : decode cX8_refusal 245 = .ok (.iload_n 1, 1) := by decide +kernel
theorem dX8_refusal_246 : decode cX8_refusal 246 = .ok (.bipush 10, 2) := by decide +kernel
theorem dX8_refusal_248 : decode cX8_refusal 248 = .ok (.if_icmp .ne 21, 3) := by decide +kernel
theorem dX8_refusal_251 : decode cX8_refusal 251 = .ok (.aload_n 0, 1) := by decide +kernel
theorem dX8_refusal_252 : decode cX8_refusal 252 = .ok (.getfield 20, 3) := by decide +kernel
theorem dX8_refusal_255 : decode cX8_refusal 255 = .ok (.iload 10, 2) := by decide +kernel
theorem dX8_refusal_257 : decode cX8_refusal 257 = .ok (.iaload, 1) := by decide +kernel
theorem dX8_refusal_258 : decode cX8_refusal 258 = .ok (.iconst 2, 1) := by decide +kernel
theorem dX8_refusal_259 : decode cX8_refusal 259 = .ok (.if_icmp .ne 7, 3) := by decide +kernel
theorem dX8_refusal_262 : decode cX8_refusal 262 = .ok (.iconst 1, 1) := by decide +kernel
theorem dX8_refusal_263 : decode cX8_refusal 263 = .ok (.goto 4, 3) := by decide +kernel
theorem dX8_refusal_266 : decode cX8_refusal 266 = .ok (.iconst 0, 1) := by decide +kernel
theorem dX8_refusal_267 : decode cX8_refusal 267 = .ok (.istore 11, 2) := by decide +kernel
theorem dX8_refusal_269 : decode cX8_refusal 269 = .ok (.iload_n 1, 1) := by decide +kernel
theorem dX8_refusal_270 : decode cX8_refusal 270 = .ok (.bipush 12, 2) := by decide +kernel
theorem dX8_refusal_272 : decode cX8_refusal 272 = .ok (.if_icmp .ne 32, 3) := by decide +kernel
theorem dX8_refusal_275 : decode cX8_refusal 275 = .ok (.iload 9, 2) := by decide +kernel
theorem dX8_refusal_277 : decode cX8_refusal 277 = .ok (.iconst 2, 1) := by decide +kernel
theorem dX8_refusal_278 : decode cX8_refusal 278 = .ok (.if_icmp .ne 23, 3) := by decide +kernel
theorem dX8_refusal_281 : decode cX8_refusal 281 = .ok (.aload_n 0, 1) := by decide +kernel
theorem dX8_refusal_282 : decode cX8_refusal 282 = .ok (.getfield 20, 3) := by decide +kernel
theorem dX8_refusal_285 : decode cX8_refusal 285 = .ok (.aload_n 0, 1) := by decide +kernel
theorem dX8_refusal_286 : decode cX8_refusal 286 = .ok (.getfield 23, 3) := by decide +kernel
theorem dX8_refusal_289 : decode cX8_refusal 289 = .ok (.iload 8, 2) := by decide +kernel
theorem dX8_refusal_291 : decode cX8_refusal 291 = .ok (.iaload, 1) := by decide +kernel
theorem dX8_refusal_292 : decode cX8_refusal 292 = .ok (.iaload, 1) := by decide +kernel
theorem dX8_refusal_293 : decode cX8_refusal 293 = .ok (.iconst 2, 1) := by decide +kernel
theorem dX8_refusal_294 : decode cX8_refusal 294 = .ok (.if_icmp .ne 7, 3) := by decide +kernel
theorem dX8_refusal_297 : decode cX8_refusal 297 = .ok (.iconst 1, 1) := by decide +kernel
theorem dX8_refusal_298 : decode cX8_refusal 298 = .ok (.goto 4, 3) := by decide +kernel
theorem dX8_refusal_301 : decode cX8_refusal 301 = .ok (.iconst 0, 1) := by decide +kernel
theorem dX8_refusal_302 : decode cX8_refusal 302 = .ok (.istore 11, 2) := by decide +kernel
theorem dX8_refusal_304 : decode cX8_refusal 304 = .ok (.iload 11, 2) := by decide +kernel
theorem dX8_refusal_306 : decode cX8_refusal 306 = .ok (.ifCond .ne 7, 3) := by decide +kernel
theorem dX8_refusal_309 : decode cX8_refusal 309 = .ok (.iconst 2, 1) := by decide +kernel
theorem dX8_refusal_310 : decode cX8_refusal 310 = .ok (.goto 26, 3) := by decide +kernel
theorem dX8_refusal_313 : decode cX8_refusal 313 = .ok (.aload_n 0, 1) := by decide +kernel
theorem dX8_refusal_314 : decode cX8_refusal 314 = .ok (.iload_n 1, 1) := by decide +kernel
theorem dX8_refusal_315 : decode cX8_refusal 315 = .ok (.iload_n 2, 1) := by decide +kernel
theorem dX8_refusal_316 : decode cX8_refusal 316 = .ok (.iload 8, 2) := by decide +kernel
theorem dX8_refusal_318 : decode cX8_refusal 318 = .ok (.iload 10, 2) := by decide +kernel
theorem dX8_refusal_320 : decode cX8_refusal 320 = .ok (.iload_n 3, 1) := by decide +kernel
theorem dX8_refusal_321 : decode cX8_refusal 321 = .ok (.iload 4, 2) := by decide +kernel
theorem dX8_refusal_323 : decode cX8_refusal 323 = .ok (.iload 5, 2) := by decide +kernel
theorem dX8_refusal_325 : decode cX8_refusal 325 = .ok (.invokevirtual 249, 3) := by decide +kernel
theorem dX8_refusal_328 : decode cX8_refusal 328 = .ok (.ifCond .eq 7, 3) := by decide +kernel
theorem dX8_refusal_331 : decode cX8_refusal 331 = .ok (.iconst 0, 1) := by decide +kernel
theorem dX8_refusal_332 : decode cX8_refusal 332 = .ok (.goto 4, 3) := by decide +kernel
theorem dX8_refusal_335 : decode cX8_refusal 335 = .ok (.iconst 3, 1) := by decide +kernel
theorem dX8_refusal_336 : decode cX8_refusal 336 = .ok (.ireturn, 1) := by decide +kernel
theorem dX8_isMade_0 : decode cX8_isMade 0 = .ok (.aload_n 0, 1) := by decide +kernel
theorem dX8_isMade_1 : decode cX8_isMade 1 = .ok (.getfield 20, 3) := by decide +kernel
theorem dX8_isMade_4 : decode cX8_isMade 4 = .ok (.iload_n 1, 1) := by decide +kernel
theorem dX8_isMade_5 : decode cX8_isMade 5 = .ok (.iaload, 1) := by decide +kernel
theorem dX8_isMade_6 : decode cX8_isMade 6 = .ok (.iload_n 2, 1) := by decide +kernel
theorem dX8_isMade_7 : decode cX8_isMade 7 = .ok (.if_icmp .ne 28, 3) := by decide +kernel
theorem dX8_isMade_10 : decode cX8_isMade 10 = .ok (.aload_n 0, 1) := by decide +kernel
theorem dX8_isMade_11 : decode cX8_isMade 11 = .ok (.getfield 23, 3) := by decide +kernel
theorem dX8_isMade_14 : decode cX8_isMade 14 = .ok (.iload_n 1, 1) := by decide +kernel
theorem dX8_isMade_15 : decode cX8_isMade 15 = .ok (.iaload, 1) := by decide +kernel
theorem dX8_isMade_16 : decode cX8_isMade 16 = .ok (.iload_n 3, 1) := by decide +kernel
theorem dX8_isMade_17 : decode cX8_isMade 17 = .ok (.if_icmp .ne 18, 3) := by decide +kernel
theorem dX8_isMade_20 : decode cX8_isMade 20 = .ok (.aload_n 0, 1) := by decide +kernel
theorem dX8_isMade_21 : decode cX8_isMade 21 = .ok (.getfield 26, 3) := by decide +kernel
theorem dX8_isMade_24 : decode cX8_isMade 24 = .ok (.iload_n 1, 1) := by decide +kernel
theorem dX8_isMade_25 : decode cX8_isMade 25 = .ok (.iaload, 1) := by decide +kernel
theorem dX8_isMade_26 : decode cX8_isMade 26 = .ok (.iload 4, 2) := by decide +kernel
theorem dX8_isMade_28 : decode cX8_isMade 28 = .ok (.if_icmp .ne 7, 3) := by decide +kernel
theorem dX8_isMade_31 : decode cX8_isMade 31 = .ok (.iconst 1, 1) := by decide +kernel
theorem dX8_isMade_32 : decode cX8_isMade 32 = .ok (.goto 4, 3) := by decide +kernel
theorem dX8_isMade_35 : decode cX8_isMade 35 = .ok (.iconst 0, 1) := by decide +kernel
theorem dX8_isMade_36 : decode cX8_isMade 36 = .ok (.ireturn, 1) := by decide +kernel
theorem dX8_gives_0 : decode cX8_gives 0 = .ok (.iload_n 1, 1) := by decide +kernel
theorem dX8_gives_1 : decode cX8_gives 1 = .ok (.tableswitch 344 0 11 #[63, 74, 84, 100, 116, 142, 168, 248, 268, 295, 315, 342], 63) := by decide +kernel
theorem dX8_gives_64 : decode cX8_gives 64 = .ok (.iload_n 2, 1) := by decide +kernel
theorem dX8_gives_65 : decode cX8_gives 65 = .ok (.iload_n 3, 1) := by decide +kernel
theorem dX8_gives_66 : decode cX8_gives 66 = .ok (.if_icmp .ne 7, 3) := by decide +kernel
theorem dX8_gives_69 : decode cX8_gives 69 = .ok (.iconst 1, 1) := by decide +kernel
theorem dX8_gives_70 : decode cX8_gives 70 = .ok (.goto 4, 3) := by decide +kernel
theorem dX8_gives_73 : decode cX8_gives 73 = .ok (.iconst 0, 1) := by decide +kernel
theorem dX8_gives_74 : decode cX8_gives 74 = .ok (.ireturn, 1) := by decide +kernel
theorem dX8_gives_75 : decode cX8_gives 75 = .ok (.aload_n 0, 1) := by decide +kernel
theorem dX8_gives_76 : decode cX8_gives 76 = .ok (.iload_n 2, 1) := by decide +kernel
theorem dX8_gives_77 : decode cX8_gives 77 = .ok (.iconst 3, 1) := by decide +kernel
theorem dX8_gives_78 : decode cX8_gives 78 = .ok (.iload_n 3, 1) := by decide +kernel
theorem dX8_gives_79 : decode cX8_gives 79 = .ok (.iload 4, 2) := by decide +kernel
theorem dX8_gives_81 : decode cX8_gives 81 = .ok (.invokevirtual 253, 3) := by decide +kernel
theorem dX8_gives_84 : decode cX8_gives 84 = .ok (.ireturn, 1) := by decide +kernel
theorem dX8_gives_85 : decode cX8_gives 85 = .ok (.iload_n 2, 1) := by decide +kernel
theorem dX8_gives_86 : decode cX8_gives 86 = .ok (.aload_n 0, 1) := by decide +kernel
theorem dX8_gives_87 : decode cX8_gives 87 = .ok (.getfield 23, 3) := by decide +kernel
theorem dX8_gives_90 : decode cX8_gives 90 = .ok (.iload_n 3, 1) := by decide +kernel
theorem dX8_gives_91 : decode cX8_gives 91 = .ok (.iaload, 1) := by decide +kernel
theorem dX8_gives_92 : decode cX8_gives 92 = .ok (.if_icmp .ne 7, 3) := by decide +kernel
theorem dX8_gives_95 : decode cX8_gives 95 = .ok (.iconst 1, 1) := by decide +kernel
theorem dX8_gives_96 : decode cX8_gives 96 = .ok (.goto 4, 3) := by decide +kernel
theorem dX8_gives_99 : decode cX8_gives 99 = .ok (.iconst 0, 1) := by decide +kernel
theorem dX8_gives_100 : decode cX8_gives 100 = .ok (.ireturn, 1) := by decide +kernel
theorem dX8_gives_101 : decode cX8_gives 101 = .ok (.iload_n 2, 1) := by decide +kernel
theorem dX8_gives_102 : decode cX8_gives 102 = .ok (.aload_n 0, 1) := by decide +kernel
theorem dX8_gives_103 : decode cX8_gives 103 = .ok (.getfield 26, 3) := by decide +kernel
theorem dX8_gives_106 : decode cX8_gives 106 = .ok (.iload_n 3, 1) := by decide +kernel
theorem dX8_gives_107 : decode cX8_gives 107 = .ok (.iaload, 1) := by decide +kernel
theorem dX8_gives_108 : decode cX8_gives 108 = .ok (.if_icmp .ne 7, 3) := by decide +kernel
theorem dX8_gives_111 : decode cX8_gives 111 = .ok (.iconst 1, 1) := by decide +kernel
theorem dX8_gives_112 : decode cX8_gives 112 = .ok (.goto 4, 3) := by decide +kernel
theorem dX8_gives_115 : decode cX8_gives 115 = .ok (.iconst 0, 1) := by decide +kernel
theorem dX8_gives_116 : decode cX8_gives 116 = .ok (.ireturn, 1) := by decide +kernel
theorem dX8_gives_117 : decode cX8_gives 117 = .ok (.aload_n 0, 1) := by decide +kernel
theorem dX8_gives_118 : decode cX8_gives 118 = .ok (.getfield 20, 3) := by decide +kernel
theorem dX8_gives_121 : decode cX8_gives 121 = .ok (.iload_n 2, 1) := by decide +kernel
theorem dX8_gives_122 : decode cX8_gives 122 = .ok (.iaload, 1) := by decide +kernel
theorem dX8_gives_123 : decode cX8_gives 123 = .ok (.iconst 4, 1) := by decide +kernel
theorem dX8_gives_124 : decode cX8_gives 124 = .ok (.if_icmp .ne 17, 3) := by decide +kernel
theorem dX8_gives_127 : decode cX8_gives 127 = .ok (.aload_n 0, 1) := by decide +kernel
theorem dX8_gives_128 : decode cX8_gives 128 = .ok (.getfield 23, 3) := by decide +kernel
theorem dX8_gives_131 : decode cX8_gives 131 = .ok (.iload_n 2, 1) := by decide +kernel
theorem dX8_gives_132 : decode cX8_gives 132 = .ok (.iaload, 1) := by decide +kernel
theorem dX8_gives_133 : decode cX8_gives 133 = .ok (.iload_n 3, 1) := by decide +kernel
theorem dX8_gives_134 : decode cX8_gives 134 = .ok (.if_icmp .ne 7, 3) := by decide +kernel
theorem dX8_gives_137 : decode cX8_gives 137 = .ok (.iconst 1, 1) := by decide +kernel
theorem dX8_gives_138 : decode cX8_gives 138 = .ok (.goto 4, 3) := by decide +kernel
theorem dX8_gives_141 : decode cX8_gives 141 = .ok (.iconst 0, 1) := by decide +kernel
theorem dX8_gives_142 : decode cX8_gives 142 = .ok (.ireturn, 1) := by decide +kernel
theorem dX8_gives_143 : decode cX8_gives 143 = .ok (.aload_n 0, 1) := by decide +kernel
theorem dX8_gives_144 : decode cX8_gives 144 = .ok (.getfield 20, 3) := by decide +kernel
theorem dX8_gives_147 : decode cX8_gives 147 = .ok (.iload_n 2, 1) := by decide +kernel
theorem dX8_gives_148 : decode cX8_gives 148 = .ok (.iaload, 1) := by decide +kernel
theorem dX8_gives_149 : decode cX8_gives 149 = .ok (.iconst 4, 1) := by decide +kernel
theorem dX8_gives_150 : decode cX8_gives 150 = .ok (.if_icmp .ne 17, 3) := by decide +kernel
theorem dX8_gives_153 : decode cX8_gives 153 = .ok (.aload_n 0, 1) := by decide +kernel
theorem dX8_gives_154 : decode cX8_gives 154 = .ok (.getfield 26, 3) := by decide +kernel
theorem dX8_gives_157 : decode cX8_gives 157 = .ok (.iload_n 2, 1) := by decide +kernel
theorem dX8_gives_158 : decode cX8_gives 158 = .ok (.iaload, 1) := by decide +kernel
theorem dX8_gives_159 : decode cX8_gives 159 = .ok (.iload_n 3, 1) := by decide +kernel
theorem dX8_gives_160 : decode cX8_gives 160 = .ok (.if_icmp .ne 7, 3) := by decide +kernel
theorem dX8_gives_163 : decode cX8_gives 163 = .ok (.iconst 1, 1) := by decide +kernel
theorem dX8_gives_164 : decode cX8_gives 164 = .ok (.goto 4, 3) := by decide +kernel
theorem dX8_gives_167 : decode cX8_gives 167 = .ok (.iconst 0, 1) := by decide +kernel
theorem dX8_gives_168 : decode cX8_gives 168 = .ok (.ireturn, 1) := by decide +kernel
theorem dX8_gives_169 : decode cX8_gives 169 = .ok (.aload_n 0, 1) := by decide +kernel
theorem dX8_gives_170 : decode cX8_gives 170 = .ok (.getfield 40, 3) := by decide +kernel
theorem dX8_gives_173 : decode cX8_gives 173 = .ok (.aload_n 0, 1) := by decide +kernel
theorem dX8_gives_174 : decode cX8_gives 174 = .ok (.getfield 52, 3) := by decide +kernel
theorem dX8_gives_177 : decode cX8_gives 177 = .ok (.iload 6, 2) := by decide +kernel
theorem dX8_gives_179 : decode cX8_gives 179 = .ok (.iaload, 1) := by decide +kernel
theorem dX8_gives_180 : decode cX8_gives 180 = .ok (.iaload, 1) := by decide +kernel
theorem dX8_gives_181 : decode cX8_gives 181 = .ok (.aload_n 0, 1) := by decide +kernel
theorem dX8_gives_182 : decode cX8_gives 182 = .ok (.getfield 23, 3) := by decide +kernel
theorem dX8_gives_185 : decode cX8_gives 185 = .ok (.iload_n 3, 1) := by decide +kernel
theorem dX8_gives_186 : decode cX8_gives 186 = .ok (.iaload, 1) := by decide +kernel
theorem dX8_gives_187 : decode cX8_gives 187 = .ok (.if_icmp .ne 60, 3) := by decide +kernel
theorem dX8_gives_190 : decode cX8_gives 190 = .ok (.aload_n 0, 1) := by decide +kernel
theorem dX8_gives_191 : decode cX8_gives 191 = .ok (.getfield 40, 3) := by decide +kernel
theorem dX8_gives_194 : decode cX8_gives 194 = .ok (.aload_n 0, 1) := by decide +kernel
theorem dX8_gives_195 : decode cX8_gives 195 = .ok (.getfield 52, 3) := by decide +kernel
theorem dX8_gives_198 : decode cX8_gives 198 = .ok (.iload 7, 2) := by decide +kernel
theorem dX8_gives_200 : decode cX8_gives 200 = .ok (.iaload, 1) := by decide +kernel
theorem dX8_gives_201 : decode cX8_gives 201 = .ok (.iaload, 1) := by decide +kernel
theorem dX8_gives_202 : decode cX8_gives 202 = .ok (.aload_n 0, 1) := by decide +kernel
theorem dX8_gives_203 : decode cX8_gives 203 = .ok (.getfield 26, 3) := by decide +kernel
theorem dX8_gives_206 : decode cX8_gives 206 = .ok (.iload_n 3, 1) := by decide +kernel
theorem dX8_gives_207 : decode cX8_gives 207 = .ok (.iaload, 1) := by decide +kernel
theorem dX8_gives_208 : decode cX8_gives 208 = .ok (.if_icmp .ne 39, 3) := by decide +kernel
theorem dX8_gives_211 : decode cX8_gives 211 = .ok (.aload_n 0, 1) := by decide +kernel
theorem dX8_gives_212 : decode cX8_gives 212 = .ok (.getfield 40, 3) := by decide +kernel
theorem dX8_gives_215 : decode cX8_gives 215 = .ok (.aload_n 0, 1) := by decide +kernel
theorem dX8_gives_216 : decode cX8_gives 216 = .ok (.getfield 55, 3) := by decide +kernel
theorem dX8_gives_219 : decode cX8_gives 219 = .ok (.iload 6, 2) := by decide +kernel
theorem dX8_gives_221 : decode cX8_gives 221 = .ok (.iaload, 1) := by decide +kernel
theorem dX8_gives_222 : decode cX8_gives 222 = .ok (.iaload, 1) := by decide +kernel
theorem dX8_gives_223 : decode cX8_gives 223 = .ok (.iload_n 2, 1) := by decide +kernel
theorem dX8_gives_224 : decode cX8_gives 224 = .ok (.if_icmp .ne 23, 3) := by decide +kernel
theorem dX8_gives_227 : decode cX8_gives 227 = .ok (.aload_n 0, 1) := by decide +kernel
theorem dX8_gives_228 : decode cX8_gives 228 = .ok (.getfield 40, 3) := by decide +kernel
theorem dX8_gives_231 : decode cX8_gives 231 = .ok (.aload_n 0, 1) := by decide +kernel
theorem dX8_gives_232 : decode cX8_gives 232 = .ok (.getfield 55, 3) := by decide +kernel
theorem dX8_gives_235 : decode cX8_gives 235 = .ok (.iload 7, 2) := by decide +kernel
theorem dX8_gives_237 : decode cX8_gives 237 = .ok (.iaload, 1) := by decide +kernel
theorem dX8_gives_238 : decode cX8_gives 238 = .ok (.iaload, 1) := by decide +kernel
theorem dX8_gives_239 : decode cX8_gives 239 = .ok (.iload_n 2, 1) := by decide +kernel
theorem dX8_gives_240 : decode cX8_gives 240 = .ok (.if_icmp .ne 7, 3) := by decide +kernel
theorem dX8_gives_243 : decode cX8_gives 243 = .ok (.iconst 1, 1) := by decide +kernel
theorem dX8_gives_244 : decode cX8_gives 244 = .ok (.goto 4, 3) := by decide +kernel
theorem dX8_gives_247 : decode cX8_gives 247 = .ok (.iconst 0, 1) := by decide +kernel
theorem dX8_gives_248 : decode cX8_gives 248 = .ok (.ireturn, 1) := by decide +kernel
theorem dX8_gives_249 : decode cX8_gives 249 = .ok (.aload_n 0, 1) := by decide +kernel
theorem dX8_gives_250 : decode cX8_gives 250 = .ok (.iload_n 2, 1) := by decide +kernel
theorem dX8_gives_251 : decode cX8_gives 251 = .ok (.iconst 5, 1) := by decide +kernel
theorem dX8_gives_252 : decode cX8_gives 252 = .ok (.aload_n 0, 1) := by decide +kernel
theorem dX8_gives_253 : decode cX8_gives 253 = .ok (.getfield 40, 3) := by decide +kernel
theorem dX8_gives_256 : decode cX8_gives 256 = .ok (.aload_n 0, 1) := by decide +kernel
theorem dX8_gives_257 : decode cX8_gives 257 = .ok (.getfield 52, 3) := by decide +kernel
theorem dX8_gives_260 : decode cX8_gives 260 = .ok (.iload 5, 2) := by decide +kernel
theorem dX8_gives_262 : decode cX8_gives 262 = .ok (.iaload, 1) := by decide +kernel
theorem dX8_gives_263 : decode cX8_gives 263 = .ok (.iaload, 1) := by decide +kernel
theorem dX8_gives_264 : decode cX8_gives 264 = .ok (.iload_n 3, 1) := by decide +kernel
theorem dX8_gives_265 : decode cX8_gives 265 = .ok (.invokevirtual 253, 3) := by decide +kernel
theorem dX8_gives_268 : decode cX8_gives 268 = .ok (.ireturn, 1) := by decide +kernel
theorem dX8_gives_269 : decode cX8_gives 269 = .ok (.aload_n 0, 1) := by decide +kernel
theorem dX8_gives_270 : decode cX8_gives 270 = .ok (.getfield 23, 3) := by decide +kernel
theorem dX8_gives_273 : decode cX8_gives 273 = .ok (.iload_n 3, 1) := by decide +kernel
theorem dX8_gives_274 : decode cX8_gives 274 = .ok (.iaload, 1) := by decide +kernel
theorem dX8_gives_275 : decode cX8_gives 275 = .ok (.iload 4, 2) := by decide +kernel
theorem dX8_gives_277 : decode cX8_gives 277 = .ok (.if_icmp .ne 17, 3) := by decide +kernel
theorem dX8_gives_280 : decode cX8_gives 280 = .ok (.aload_n 0, 1) := by decide +kernel
theorem dX8_gives_281 : decode cX8_gives 281 = .ok (.getfield 26, 3) := by decide +kernel
theorem dX8_gives_284 : decode cX8_gives 284 = .ok (.iload_n 3, 1) := by decide +kernel
theorem dX8_gives_285 : decode cX8_gives 285 = .ok (.iaload, 1) := by decide +kernel
theorem dX8_gives_286 : decode cX8_gives 286 = .ok (.iload_n 2, 1) := by decide +kernel
theorem dX8_gives_287 : decode cX8_gives 287 = .ok (.if_icmp .ne 7, 3) := by decide +kernel
theorem dX8_gives_290 : decode cX8_gives 290 = .ok (.iconst 1, 1) := by decide +kernel
theorem dX8_gives_291 : decode cX8_gives 291 = .ok (.goto 4, 3) := by decide +kernel
theorem dX8_gives_294 : decode cX8_gives 294 = .ok (.iconst 0, 1) := by decide +kernel
theorem dX8_gives_295 : decode cX8_gives 295 = .ok (.ireturn, 1) := by decide +kernel
theorem dX8_gives_296 : decode cX8_gives 296 = .ok (.aload_n 0, 1) := by decide +kernel
theorem dX8_gives_297 : decode cX8_gives 297 = .ok (.iload_n 2, 1) := by decide +kernel
theorem dX8_gives_298 : decode cX8_gives 298 = .ok (.iconst 2, 1) := by decide +kernel
theorem dX8_gives_299 : decode cX8_gives 299 = .ok (.aload_n 0, 1) := by decide +kernel
theorem dX8_gives_300 : decode cX8_gives 300 = .ok (.getfield 40, 3) := by decide +kernel
theorem dX8_gives_303 : decode cX8_gives 303 = .ok (.aload_n 0, 1) := by decide +kernel
theorem dX8_gives_304 : decode cX8_gives 304 = .ok (.getfield 52, 3) := by decide +kernel
theorem dX8_gives_307 : decode cX8_gives 307 = .ok (.iload 5, 2) := by decide +kernel
theorem dX8_gives_309 : decode cX8_gives 309 = .ok (.iaload, 1) := by decide +kernel
theorem dX8_gives_310 : decode cX8_gives 310 = .ok (.iaload, 1) := by decide +kernel
theorem dX8_gives_311 : decode cX8_gives 311 = .ok (.iconst (-1), 1) := by decide +kernel
theorem dX8_gives_312 : decode cX8_gives 312 = .ok (.invokevirtual 253, 3) := by decide +kernel
theorem dX8_gives_315 : decode cX8_gives 315 = .ok (.ireturn, 1) := by decide +kernel
theorem dX8_gives_316 : decode cX8_gives 316 = .ok (.aload_n 0, 1) := by decide +kernel
theorem dX8_gives_317 : decode cX8_gives 317 = .ok (.getfield 23, 3) := by decide +kernel
theorem dX8_gives_320 : decode cX8_gives 320 = .ok (.iload 4, 2) := by decide +kernel
theorem dX8_gives_322 : decode cX8_gives 322 = .ok (.iaload, 1) := by decide +kernel
theorem dX8_gives_323 : decode cX8_gives 323 = .ok (.iload_n 3, 1) := by decide +kernel
theorem dX8_gives_324 : decode cX8_gives 324 = .ok (.if_icmp .ne 17, 3) := by decide +kernel
theorem dX8_gives_327 : decode cX8_gives 327 = .ok (.aload_n 0, 1) := by decide +kernel
theorem dX8_gives_328 : decode cX8_gives 328 = .ok (.getfield 20, 3) := by decide +kernel
theorem dX8_gives_331 : decode cX8_gives 331 = .ok (.iload_n 2, 1) := by decide +kernel
theorem dX8_gives_332 : decode cX8_gives 332 = .ok (.iaload, 1) := by decide +kernel
theorem dX8_gives_333 : decode cX8_gives 333 = .ok (.iconst 1, 1) := by decide +kernel
theorem dX8_gives_334 : decode cX8_gives 334 = .ok (.if_icmp .ne 7, 3) := by decide +kernel
theorem dX8_gives_337 : decode cX8_gives 337 = .ok (.iconst 1, 1) := by decide +kernel
theorem dX8_gives_338 : decode cX8_gives 338 = .ok (.goto 4, 3) := by decide +kernel
theorem dX8_gives_341 : decode cX8_gives 341 = .ok (.iconst 0, 1) := by decide +kernel
theorem dX8_gives_342 : decode cX8_gives 342 = .ok (.ireturn, 1) := by decide +kernel
theorem dX8_gives_343 : decode cX8_gives 343 = .ok (.iconst 1, 1) := by decide +kernel
theorem dX8_gives_344 : decode cX8_gives 344 = .ok (.ireturn, 1) := by decide +kernel
theorem dX8_gives_345 : decode cX8_gives 345 = .ok (.aload_n 0, 1) := by decide +kernel
theorem dX8_gives_346 : decode cX8_gives 346 = .ok (.getfield 23, 3) := by decide +kernel
theorem dX8_gives_349 : decode cX8_gives 349 = .ok (.aload_n 0, 1) := by decide +kernel
theorem dX8_gives_350 : decode cX8_gives 350 = .ok (.getfield 23, 3) := by decide +kernel
theorem dX8_gives_353 : decode cX8_gives 353 = .ok (.iload_n 3, 1) := by decide +kernel
theorem dX8_gives_354 : decode cX8_gives 354 = .ok (.iaload, 1) := by decide +kernel
theorem dX8_gives_355 : decode cX8_gives 355 = .ok (.iaload, 1) := by decide +kernel
theorem dX8_gives_356 : decode cX8_gives 356 = .ok (.iload_n 2, 1) := by decide +kernel
theorem dX8_gives_357 : decode cX8_gives 357 = .ok (.if_icmp .ne 7, 3) := by decide +kernel
theorem dX8_gives_360 : decode cX8_gives 360 = .ok (.iconst 1, 1) := by decide +kernel
theorem dX8_gives_361 : decode cX8_gives 361 = .ok (.goto 4, 3) := by decide +kernel
theorem dX8_gives_364 : decode cX8_gives 364 = .ok (.iconst 0, 1) := by decide +kernel
theorem dX8_gives_365 : decode cX8_gives 365 = .ok (.ireturn, 1) := by decide +kernel
theorem dX8_theoremGives_0 : decode cX8_theoremGives 0 = .ok (.aload_n 0, 1) := by decide +kernel
theorem dX8_theoremGives_1 : decode cX8_theoremGives 1 = .ok (.invokevirtual 256, 3) := by decide +kernel
theorem dX8_theoremGives_4 : decode cX8_theoremGives 4 = .ok (.aload_n 0, 1) := by decide +kernel
theorem dX8_theoremGives_5 : decode cX8_theoremGives 5 = .ok (.aload_n 0, 1) := by decide +kernel
theorem dX8_theoremGives_6 : decode cX8_theoremGives 6 = .ok (.getfield 67, 3) := by decide +kernel
theorem dX8_theoremGives_9 : decode cX8_theoremGives 9 = .ok (.iload_n 2, 1) := by decide +kernel
theorem dX8_theoremGives_10 : decode cX8_theoremGives 10 = .ok (.iaload, 1) := by decide +kernel
theorem dX8_theoremGives_11 : decode cX8_theoremGives 11 = .ok (.iload_n 1, 1) := by decide +kernel
theorem dX8_theoremGives_12 : decode cX8_theoremGives 12 = .ok (.invokevirtual 236, 3) := by decide +kernel
theorem dX8_theoremGives_15 : decode cX8_theoremGives 15 = .ok (.istore 5, 2) := by decide +kernel
theorem dX8_theoremGives_17 : decode cX8_theoremGives 17 = .ok (.iload 5, 2) := by decide +kernel
theorem dX8_theoremGives_19 : decode cX8_theoremGives 19 = .ok (.ifCond .eq 32, 3) := by decide +kernel
theorem dX8_theoremGives_22 : decode cX8_theoremGives 22 = .ok (.aload_n 0, 1) := by decide +kernel
theorem dX8_theoremGives_23 : decode cX8_theoremGives 23 = .ok (.getfield 70, 3) := by decide +kernel
theorem dX8_theoremGives_26 : decode cX8_theoremGives 26 = .ok (.iload_n 2, 1) := by decide +kernel
theorem dX8_theoremGives_27 : decode cX8_theoremGives 27 = .ok (.iaload, 1) := by decide +kernel
theorem dX8_theoremGives_28 : decode cX8_theoremGives 28 = .ok (.ifCond .le 23, 3) := by decide +kernel
theorem dX8_theoremGives_31 : decode cX8_theoremGives 31 = .ok (.aload_n 0, 1) := by decide +kernel
theorem dX8_theoremGives_32 : decode cX8_theoremGives 32 = .ok (.aload_n 0, 1) := by decide +kernel
theorem dX8_theoremGives_33 : decode cX8_theoremGives 33 = .ok (.getfield 73, 3) := by decide +kernel
theorem dX8_theoremGives_36 : decode cX8_theoremGives 36 = .ok (.iconst 2, 1) := by decide +kernel
theorem dX8_theoremGives_37 : decode cX8_theoremGives 37 = .ok (.iload_n 2, 1) := by decide +kernel
theorem dX8_theoremGives_38 : decode cX8_theoremGives 38 = .ok (.imul, 1) := by decide +kernel
theorem dX8_theoremGives_39 : decode cX8_theoremGives 39 = .ok (.iaload, 1) := by decide +kernel
theorem dX8_theoremGives_40 : decode cX8_theoremGives 40 = .ok (.aload_n 0, 1) := by decide +kernel
theorem dX8_theoremGives_41 : decode cX8_theoremGives 41 = .ok (.getfield 40, 3) := by decide +kernel
theorem dX8_theoremGives_44 : decode cX8_theoremGives 44 = .ok (.iload_n 3, 1) := by decide +kernel
theorem dX8_theoremGives_45 : decode cX8_theoremGives 45 = .ok (.iaload, 1) := by decide +kernel
theorem dX8_theoremGives_46 : decode cX8_theoremGives 46 = .ok (.invokevirtual 236, 3) := by decide +kernel
theorem dX8_theoremGives_49 : decode cX8_theoremGives 49 = .ok (.istore 5, 2) := by decide +kernel
theorem dX8_theoremGives_51 : decode cX8_theoremGives 51 = .ok (.iload 5, 2) := by decide +kernel
theorem dX8_theoremGives_53 : decode cX8_theoremGives 53 = .ok (.ifCond .eq 36, 3) := by decide +kernel
theorem dX8_theoremGives_56 : decode cX8_theoremGives 56 = .ok (.aload_n 0, 1) := by decide +kernel
theorem dX8_theoremGives_57 : decode cX8_theoremGives 57 = .ok (.getfield 70, 3) := by decide +kernel
theorem dX8_theoremGives_60 : decode cX8_theoremGives 60 = .ok (.iload_n 2, 1) := by decide +kernel
theorem dX8_theoremGives_61 : decode cX8_theoremGives 61 = .ok (.iaload, 1) := by decide +kernel
theorem dX8_theoremGives_62 : decode cX8_theoremGives 62 = .ok (.iconst 1, 1) := by decide +kernel
theorem dX8_theoremGives_63 : decode cX8_theoremGives 63 = .ok (.if_icmp .le 26, 3) := by decide +kernel
theorem dX8_theoremGives_66 : decode cX8_theoremGives 66 = .ok (.aload_n 0, 1) := by decide +kernel
theorem dX8_theoremGives_67 : decode cX8_theoremGives 67 = .ok (.aload_n 0, 1) := by decide +kernel
theorem dX8_theoremGives_68 : decode cX8_theoremGives 68 = .ok (.getfield 73, 3) := by decide +kernel
theorem dX8_theoremGives_71 : decode cX8_theoremGives 71 = .ok (.iconst 2, 1) := by decide +kernel
theorem dX8_theoremGives_72 : decode cX8_theoremGives 72 = .ok (.iload_n 2, 1) := by decide +kernel
theorem dX8_theoremGives_73 : decode cX8_theoremGives 73 = .ok (.imul, 1) := by decide +kernel
theorem dX8_theoremGives_74 : decode cX8_theoremGives 74 = .ok (.iconst 1, 1) := by decide +kernel
theorem dX8_theoremGives_75 : decode cX8_theoremGives 75 = .ok (.iadd, 1) := by decide +kernel
theorem dX8_theoremGives_76 : decode cX8_theoremGives 76 = .ok (.iaload, 1) := by decide +kernel
theorem dX8_theoremGives_77 : decode cX8_theoremGives 77 = .ok (.aload_n 0, 1) := by decide +kernel
theorem dX8_theoremGives_78 : decode cX8_theoremGives 78 = .ok (.getfield 40, 3) := by decide +kernel
theorem dX8_theoremGives_81 : decode cX8_theoremGives 81 = .ok (.iload 4, 2) := by decide +kernel
theorem dX8_theoremGives_83 : decode cX8_theoremGives 83 = .ok (.iaload, 1) := by decide +kernel
theorem dX8_theoremGives_84 : decode cX8_theoremGives 84 = .ok (.invokevirtual 236, 3) := by decide +kernel
theorem dX8_theoremGives_87 : decode cX8_theoremGives 87 = .ok (.istore 5, 2) := by decide +kernel
theorem dX8_theoremGives_89 : decode cX8_theoremGives 89 = .ok (.iload 5, 2) := by decide +kernel
theorem dX8_theoremGives_91 : decode cX8_theoremGives 91 = .ok (.ireturn, 1) := by decide +kernel
theorem dX8_step_0 : decode cX8_step 0 = .ok (.aload_n 0, 1) := by decide +kernel
theorem dX8_step_1 : decode cX8_step 1 = .ok (.iconst 0, 1) := by decide +kernel
theorem dX8_step_2 : decode cX8_step 2 = .ok (.putfield 106, 3) := by decide +kernel
theorem dX8_step_5 : decode cX8_step 5 = .ok (.iload_n 1, 1) := by decide +kernel
theorem dX8_step_6 : decode cX8_step 6 = .ok (.iconst 0, 1) := by decide +kernel
theorem dX8_step_7 : decode cX8_step 7 = .ok (.bipush 13, 2) := by decide +kernel
theorem dX8_step_9 : decode cX8_step 9 = .ok (.invokestatic 112, 3) := by decide +kernel
theorem dX8_step_12 : decode cX8_step 12 = .ok (.ifCond .ne 9, 3) := by decide +kernel
theorem dX8_step_15 : decode cX8_step 15 = .ok (.aload_n 0, 1) := by decide +kernel
theorem dX8_step_16 : decode cX8_step 16 = .ok (.iconst 1, 1) := by decide +kernel
theorem dX8_step_17 : decode cX8_step 17 = .ok (.invokevirtual 119, 3) := by decide +kernel
theorem dX8_step_20 : decode cX8_step 20 = .ok (.ireturn, 1) := by decide +kernel
theorem dX8_step_21 : decode cX8_step 21 = .ok (.aload_n 0, 1) := by decide +kernel
theorem dX8_step_22 : decode cX8_step 22 = .ok (.iload_n 2, 1) := by decide +kernel
theorem dX8_step_23 : decode cX8_step 23 = .ok (.invokevirtual 171, 3) := by decide +kernel
theorem dX8_step_26 : decode cX8_step 26 = .ok (.ifCond .ne 9, 3) := by decide +kernel
theorem dX8_step_29 : decode cX8_step 29 = .ok (.aload_n 0, 1) := by decide +kernel
theorem dX8_step_30 : decode cX8_step 30 = .ok (.iconst 2, 1) := by decide +kernel
theorem dX8_step_31 : decode cX8_step 31 = .ok (.invokevirtual 119, 3) := by decide +kernel
theorem dX8_step_34 : decode cX8_step 34 = .ok (.ireturn, 1) := by decide +kernel
theorem dX8_step_35 : decode cX8_step 35 = .ok (.aload_n 0, 1) := by decide +kernel
theorem dX8_step_36 : decode cX8_step 36 = .ok (.getfield 199, 3) := by decide +kernel
theorem dX8_step_39 : decode cX8_step 39 = .ok (.bipush 60, 2) := by decide +kernel
theorem dX8_step_41 : decode cX8_step 41 = .ok (.if_icmp .ne 9, 3) := by decide +kernel
theorem dX8_step_44 : decode cX8_step 44 = .ok (.aload_n 0, 1) := by decide +kernel
theorem dX8_step_45 : decode cX8_step 45 = .ok (.iconst 3, 1) := by decide +kernel
theorem dX8_step_46 : decode cX8_step 46 = .ok (.invokevirtual 119, 3) := by decide +kernel
theorem dX8_step_49 : decode cX8_step 49 = .ok (.ireturn, 1) := by decide +kernel
theorem dX8_step_50 : decode cX8_step 50 = .ok (.aload_n 0, 1) := by decide +kernel
theorem dX8_step_51 : decode cX8_step 51 = .ok (.iload_n 1, 1) := by decide +kernel
theorem dX8_step_52 : decode cX8_step 52 = .ok (.iload_n 2, 1) := by decide +kernel
theorem dX8_step_53 : decode cX8_step 53 = .ok (.iload_n 3, 1) := by decide +kernel
theorem dX8_step_54 : decode cX8_step 54 = .ok (.iload 4, 2) := by decide +kernel
theorem dX8_step_56 : decode cX8_step 56 = .ok (.iload 5, 2) := by decide +kernel
theorem dX8_step_58 : decode cX8_step 58 = .ok (.invokevirtual 259, 3) := by decide +kernel
theorem dX8_step_61 : decode cX8_step 61 = .ok (.istore 6, 2) := by decide +kernel
theorem dX8_step_63 : decode cX8_step 63 = .ok (.iload 6, 2) := by decide +kernel
theorem dX8_step_65 : decode cX8_step 65 = .ok (.ifCond .eq 6, 3) := by decide +kernel
theorem dX8_step_68 : decode cX8_step 68 = .ok (.iload 6, 2) := by decide +kernel
theorem dX8_step_70 : decode cX8_step 70 = .ok (.ireturn, 1) := by decide +kernel
theorem dX8_step_71 : decode cX8_step 71 = .ok (.aload_n 0, 1) := by decide +kernel
theorem dX8_step_72 : decode cX8_step 72 = .ok (.iload_n 1, 1) := by decide +kernel
theorem dX8_step_73 : decode cX8_step 73 = .ok (.iload_n 3, 1) := by decide +kernel
theorem dX8_step_74 : decode cX8_step 74 = .ok (.invokevirtual 239, 3) := by decide +kernel
theorem dX8_step_77 : decode cX8_step 77 = .ok (.istore 7, 2) := by decide +kernel
theorem dX8_step_79 : decode cX8_step 79 = .ok (.aload_n 0, 1) := by decide +kernel
theorem dX8_step_80 : decode cX8_step 80 = .ok (.iload_n 2, 1) := by decide +kernel
theorem dX8_step_81 : decode cX8_step 81 = .ok (.iload_n 1, 1) := by decide +kernel
theorem dX8_step_82 : decode cX8_step 82 = .ok (.iload_n 3, 1) := by decide +kernel
theorem dX8_step_83 : decode cX8_step 83 = .ok (.iload 7, 2) := by decide +kernel
theorem dX8_step_85 : decode cX8_step 85 = .ok (.bipush 10, 2) := by decide +kernel
theorem dX8_step_87 : decode cX8_step 87 = .ok (.idiv, 1) := by decide +kernel
theorem dX8_step_88 : decode cX8_step 88 = .ok (.bipush 10, 2) := by decide +kernel
theorem dX8_step_90 : decode cX8_step 90 = .ok (.irem, 1) := by decide +kernel
theorem dX8_step_91 : decode cX8_step 91 = .ok (.ifCond .ne 7, 3) := by decide +kernel
theorem dX8_step_94 : decode cX8_step 94 = .ok (.iconst 0, 1) := by decide +kernel
theorem dX8_step_95 : decode cX8_step 95 = .ok (.goto 5, 3) := by decide +kernel
theorem dX8_step_98 : decode cX8_step 98 = .ok (.iload 4, 2) := by decide +kernel
theorem dX8_step_100 : decode cX8_step 100 = .ok (.iload 7, 2) := by decide +kernel
theorem dX8_step_102 : decode cX8_step 102 = .ok (.bipush 10, 2) := by decide +kernel
theorem dX8_step_104 : decode cX8_step 104 = .ok (.irem, 1) := by decide +kernel
theorem dX8_step_105 : decode cX8_step 105 = .ok (.ifCond .ne 7, 3) := by decide +kernel
theorem dX8_step_108 : decode cX8_step 108 = .ok (.iconst 0, 1) := by decide +kernel
theorem dX8_step_109 : decode cX8_step 109 = .ok (.goto 5, 3) := by decide +kernel
theorem dX8_step_112 : decode cX8_step 112 = .ok (.iload 5, 2) := by decide +kernel
theorem dX8_step_114 : decode cX8_step 114 = .ok (.invokevirtual 214, 3) := by decide +kernel
theorem dX8_step_117 : decode cX8_step 117 = .ok (.pop, 1) := by decide +kernel
theorem dX8_step_118 : decode cX8_step 118 = .ok (.iload_n 1, 1) := by decide +kernel
theorem dX8_step_119 : decode cX8_step 119 = .ok (.bipush 13, 2) := by decide +kernel
theorem dX8_step_121 : decode cX8_step 121 = .ok (.if_icmp .ne 13, 3) := by decide +kernel
theorem dX8_step_124 : decode cX8_step 124 = .ok (.aload_n 0, 1) := by decide +kernel
theorem dX8_step_125 : decode cX8_step 125 = .ok (.getfield 82, 3) := by decide +kernel
theorem dX8_step_128 : decode cX8_step 128 = .ok (.iload_n 3, 1) := by decide +kernel
theorem dX8_step_129 : decode cX8_step 129 = .ok (.dup2, 1) := by decide +kernel
theorem dX8_step_130 : decode cX8_step 130 = .ok (.iaload, 1) := by decide +kernel
theorem dX8_step_131 : decode cX8_step 131 = .ok (.iconst 1, 1) := by decide +kernel
theorem dX8_step_132 : decode cX8_step 132 = .ok (.iadd, 1) := by decide +kernel
theorem dX8_step_133 : decode cX8_step 133 = .ok (.iastore, 1) := by decide +kernel
theorem dX8_step_134 : decode cX8_step 134 = .ok (.iconst 0, 1) := by decide +kernel
theorem dX8_step_135 : decode cX8_step 135 = .ok (.ireturn, 1) := by decide +kernel
theorem dX8_undo_0 : decode cX8_undo 0 = .ok (.aload_n 0, 1) := by decide +kernel
theorem dX8_undo_1 : decode cX8_undo 1 = .ok (.iconst 0, 1) := by decide +kernel
theorem dX8_undo_2 : decode cX8_undo 2 = .ok (.putfield 106, 3) := by decide +kernel
theorem dX8_undo_5 : decode cX8_undo 5 = .ok (.aload_n 0, 1) := by decide +kernel
theorem dX8_undo_6 : decode cX8_undo 6 = .ok (.getfield 205, 3) := by decide +kernel
theorem dX8_undo_9 : decode cX8_undo 9 = .ok (.ifCond .ne 9, 3) := by decide +kernel
theorem dX8_undo_12 : decode cX8_undo 12 = .ok (.aload_n 0, 1) := by decide +kernel
theorem dX8_undo_13 : decode cX8_undo 13 = .ok (.iconst 1, 1) := by decide +kernel
theorem dX8_undo_14 : decode cX8_undo 14 = .ok (.invokevirtual 119, 3) := by decide +kernel
theorem dX8_undo_17 : decode cX8_undo 17 = .ok (.ireturn, 1) := by decide +kernel
theorem dX8_undo_18 : decode cX8_undo 18 = .ok (.aload_n 0, 1) := by decide +kernel
theorem dX8_undo_19 : decode cX8_undo 19 = .ok (.dup, 1) := by decide +kernel
theorem dX8_undo_20 : decode cX8_undo 20 = .ok (.getfield 205, 3) := by decide +kernel
theorem dX8_undo_23 : decode cX8_undo 23 = .ok (.iconst 1, 1) := by decide +kernel
theorem dX8_undo_24 : decode cX8_undo 24 = .ok (.isub, 1) := by decide +kernel
theorem dX8_undo_25 : decode cX8_undo 25 = .ok (.putfield 205, 3) := by decide +kernel
theorem dX8_undo_28 : decode cX8_undo 28 = .ok (.aload_n 0, 1) := by decide +kernel
theorem dX8_undo_29 : decode cX8_undo 29 = .ok (.getfield 64, 3) := by decide +kernel
theorem dX8_undo_32 : decode cX8_undo 32 = .ok (.aload_n 0, 1) := by decide +kernel
theorem dX8_undo_33 : decode cX8_undo 33 = .ok (.getfield 205, 3) := by decide +kernel
theorem dX8_undo_36 : decode cX8_undo 36 = .ok (.iaload, 1) := by decide +kernel
theorem dX8_undo_37 : decode cX8_undo 37 = .ok (.istore_n 1, 1) := by decide +kernel
theorem dX8_undo_38 : decode cX8_undo 38 = .ok (.iload_n 1, 1) := by decide +kernel
theorem dX8_undo_39 : decode cX8_undo 39 = .ok (.ifCond .ge 24, 3) := by decide +kernel
theorem dX8_undo_42 : decode cX8_undo 42 = .ok (.iconst (-1), 1) := by decide +kernel
theorem dX8_undo_43 : decode cX8_undo 43 = .ok (.iload_n 1, 1) := by decide +kernel
theorem dX8_undo_44 : decode cX8_undo 44 = .ok (.isub, 1) := by decide +kernel
theorem dX8_undo_45 : decode cX8_undo 45 = .ok (.istore_n 2, 1) := by decide +kernel
theorem dX8_undo_46 : decode cX8_undo 46 = .ok (.aload_n 0, 1) := by decide +kernel
theorem dX8_undo_47 : decode cX8_undo 47 = .ok (.getfield 55, 3) := by decide +kernel
theorem dX8_undo_50 : decode cX8_undo 50 = .ok (.iload_n 2, 1) := by decide +kernel
theorem dX8_undo_51 : decode cX8_undo 51 = .ok (.iconst (-1), 1) := by decide +kernel
theorem dX8_undo_52 : decode cX8_undo 52 = .ok (.iastore, 1) := by decide +kernel
theorem dX8_undo_53 : decode cX8_undo 53 = .ok (.aload_n 0, 1) := by decide +kernel
theorem dX8_undo_54 : decode cX8_undo 54 = .ok (.iload_n 2, 1) := by decide +kernel
theorem dX8_undo_55 : decode cX8_undo 55 = .ok (.putfield 61, 3) := by decide +kernel
theorem dX8_undo_58 : decode cX8_undo 58 = .ok (.aload_n 0, 1) := by decide +kernel
theorem dX8_undo_59 : decode cX8_undo 59 = .ok (.getfield 199, 3) := by decide +kernel
theorem dX8_undo_62 : decode cX8_undo 62 = .ok (.ireturn, 1) := by decide +kernel
theorem dX8_undo_63 : decode cX8_undo 63 = .ok (.aload_n 0, 1) := by decide +kernel
theorem dX8_undo_64 : decode cX8_undo 64 = .ok (.dup, 1) := by decide +kernel
theorem dX8_undo_65 : decode cX8_undo 65 = .ok (.getfield 199, 3) := by decide +kernel
theorem dX8_undo_68 : decode cX8_undo 68 = .ok (.iconst 1, 1) := by decide +kernel
theorem dX8_undo_69 : decode cX8_undo 69 = .ok (.isub, 1) := by decide +kernel
theorem dX8_undo_70 : decode cX8_undo 70 = .ok (.putfield 199, 3) := by decide +kernel
theorem dX8_undo_73 : decode cX8_undo 73 = .ok (.aload_n 0, 1) := by decide +kernel
theorem dX8_undo_74 : decode cX8_undo 74 = .ok (.getfield 43, 3) := by decide +kernel
theorem dX8_undo_77 : decode cX8_undo 77 = .ok (.aload_n 0, 1) := by decide +kernel
theorem dX8_undo_78 : decode cX8_undo 78 = .ok (.getfield 199, 3) := by decide +kernel
theorem dX8_undo_81 : decode cX8_undo 81 = .ok (.iaload, 1) := by decide +kernel
theorem dX8_undo_82 : decode cX8_undo 82 = .ok (.bipush 14, 2) := by decide +kernel
theorem dX8_undo_84 : decode cX8_undo 84 = .ok (.if_icmp .ne 26, 3) := by decide +kernel
theorem dX8_undo_87 : decode cX8_undo 87 = .ok (.aload_n 0, 1) := by decide +kernel
theorem dX8_undo_88 : decode cX8_undo 88 = .ok (.dup, 1) := by decide +kernel
theorem dX8_undo_89 : decode cX8_undo 89 = .ok (.getfield 202, 3) := by decide +kernel
theorem dX8_undo_92 : decode cX8_undo 92 = .ok (.iconst 1, 1) := by decide +kernel
theorem dX8_undo_93 : decode cX8_undo 93 = .ok (.isub, 1) := by decide +kernel
theorem dX8_undo_94 : decode cX8_undo 94 = .ok (.putfield 202, 3) := by decide +kernel
theorem dX8_undo_97 : decode cX8_undo 97 = .ok (.aload_n 0, 1) := by decide +kernel
theorem dX8_undo_98 : decode cX8_undo 98 = .ok (.aload_n 0, 1) := by decide +kernel
theorem dX8_undo_99 : decode cX8_undo 99 = .ok (.getfield 58, 3) := by decide +kernel
theorem dX8_undo_102 : decode cX8_undo 102 = .ok (.aload_n 0, 1) := by decide +kernel
theorem dX8_undo_103 : decode cX8_undo 103 = .ok (.getfield 202, 3) := by decide +kernel
theorem dX8_undo_106 : decode cX8_undo 106 = .ok (.iaload, 1) := by decide +kernel
theorem dX8_undo_107 : decode cX8_undo 107 = .ok (.putfield 61, 3) := by decide +kernel
theorem dX8_undo_110 : decode cX8_undo 110 = .ok (.aload_n 0, 1) := by decide +kernel
theorem dX8_undo_111 : decode cX8_undo 111 = .ok (.getfield 199, 3) := by decide +kernel
theorem dX8_undo_114 : decode cX8_undo 114 = .ok (.ireturn, 1) := by decide +kernel
theorem dX8_need_0 : decode cX8_need 0 = .ok (.iload_n 1, 1) := by decide +kernel
theorem dX8_need_1 : decode cX8_need 1 = .ok (.iconst 1, 1) := by decide +kernel
theorem dX8_need_2 : decode cX8_need 2 = .ok (.if_icmp .ne 10, 3) := by decide +kernel
theorem dX8_need_5 : decode cX8_need 5 = .ok (.aload_n 0, 1) := by decide +kernel
theorem dX8_need_6 : decode cX8_need 6 = .ok (.getfield 100, 3) := by decide +kernel
theorem dX8_need_9 : decode cX8_need 9 = .ok (.iload_n 2, 1) := by decide +kernel
theorem dX8_need_10 : decode cX8_need 10 = .ok (.iconst 1, 1) := by decide +kernel
theorem dX8_need_11 : decode cX8_need 11 = .ok (.bastore, 1) := by decide +kernel
theorem dX8_need_12 : decode cX8_need 12 = .ok (.iload_n 1, 1) := by decide +kernel
theorem dX8_need_13 : decode cX8_need 13 = .ok (.iconst 2, 1) := by decide +kernel
theorem dX8_need_14 : decode cX8_need 14 = .ok (.if_icmp .eq 4, 3) := by decide +kernel
theorem dX8_need_17 : decode cX8_need 17 = .ok (.return_, 1) := by decide +kernel
theorem dX8_need_18 : decode cX8_need 18 = .ok (.aload_n 0, 1) := by decide +kernel
theorem dX8_need_19 : decode cX8_need 19 = .ok (.getfield 100, 3) := by decide +kernel
theorem dX8_need_22 : decode cX8_need 22 = .ok (.aload_n 0, 1) := by decide +kernel
theorem dX8_need_23 : decode cX8_need 23 = .ok (.getfield 52, 3) := by decide +kernel
theorem dX8_need_26 : decode cX8_need 26 = .ok (.iload_n 2, 1) := by decide +kernel
theorem dX8_need_27 : decode cX8_need 27 = .ok (.iaload, 1) := by decide +kernel
theorem dX8_need_28 : decode cX8_need 28 = .ok (.iconst 1, 1) := by decide +kernel
theorem dX8_need_29 : decode cX8_need 29 = .ok (.bastore, 1) := by decide +kernel
theorem dX8_need_30 : decode cX8_need 30 = .ok (.aload_n 0, 1) := by decide +kernel
theorem dX8_need_31 : decode cX8_need 31 = .ok (.getfield 100, 3) := by decide +kernel
theorem dX8_need_34 : decode cX8_need 34 = .ok (.aload_n 0, 1) := by decide +kernel
theorem dX8_need_35 : decode cX8_need 35 = .ok (.getfield 55, 3) := by decide +kernel
theorem dX8_need_38 : decode cX8_need 38 = .ok (.iload_n 2, 1) := by decide +kernel
theorem dX8_need_39 : decode cX8_need 39 = .ok (.iaload, 1) := by decide +kernel
theorem dX8_need_40 : decode cX8_need 40 = .ok (.iconst 1, 1) := by decide +kernel
theorem dX8_need_41 : decode cX8_need 41 = .ok (.bastore, 1) := by decide +kernel
theorem dX8_need_42 : decode cX8_need 42 = .ok (.return_, 1) := by decide +kernel
theorem dX8_look_0 : decode cX8_look 0 = .ok (.iconst 0, 1) := by decide +kernel
theorem dX8_look_1 : decode cX8_look 1 = .ok (.istore_n 1, 1) := by decide +kernel
theorem dX8_look_2 : decode cX8_look 2 = .ok (.iload_n 1, 1) := by decide +kernel
theorem dX8_look_3 : decode cX8_look 3 = .ok (.aload_n 0, 1) := by decide +kernel
theorem dX8_look_4 : decode cX8_look 4 = .ok (.getfield 199, 3) := by decide +kernel
theorem dX8_look_7 : decode cX8_look 7 = .ok (.if_icmp .ge 30, 3) := by decide +kernel
theorem dX8_look_10 : decode cX8_look 10 = .ok (.aload_n 0, 1) := by decide +kernel
theorem dX8_look_11 : decode cX8_look 11 = .ok (.getfield 100, 3) := by decide +kernel
theorem dX8_look_14 : decode cX8_look 14 = .ok (.iload_n 1, 1) := by decide +kernel
theorem dX8_look_15 : decode cX8_look 15 = .ok (.iload_n 1, 1) := by decide +kernel
theorem dX8_look_16 : decode cX8_look 16 = .ok (.iconst 1, 1) := by decide +kernel
theorem dX8_look_17 : decode cX8_look 17 = .ok (.iadd, 1) := by decide +kernel
theorem dX8_look_18 : decode cX8_look 18 = .ok (.aload_n 0, 1) := by decide +kernel
theorem dX8_look_19 : decode cX8_look 19 = .ok (.getfield 199, 3) := by decide +kernel
theorem dX8_look_22 : decode cX8_look 22 = .ok (.if_icmp .ne 7, 3) := by decide +kernel
theorem dX8_look_25 : decode cX8_look 25 = .ok (.iconst 1, 1) := by decide +kernel
theorem dX8_look_26 : decode cX8_look 26 = .ok (.goto 4, 3) := by decide +kernel
theorem dX8_look_29 : decode cX8_look 29 = .ok (.iconst 0, 1) := by decide +kernel
theorem dX8_look_30 : decode cX8_look 30 = .ok (.bastore, 1) := by decide +kernel
theorem dX8_look_31 : decode cX8_look 31 = .ok (.iinc 1 1, 3) := by decide +kernel
theorem dX8_look_34 : decode cX8_look 34 = .ok (.goto (-32), 3) := by decide +kernel
theorem dX8_look_37 : decode cX8_look 37 = .ok (.iconst 0, 1) := by decide +kernel
theorem dX8_look_38 : decode cX8_look 38 = .ok (.istore_n 1, 1) := by decide +kernel
theorem dX8_look_39 : decode cX8_look 39 = .ok (.aload_n 0, 1) := by decide +kernel
theorem dX8_look_40 : decode cX8_look 40 = .ok (.getfield 199, 3) := by decide +kernel
theorem dX8_look_43 : decode cX8_look 43 = .ok (.iconst 1, 1) := by decide +kernel
theorem dX8_look_44 : decode cX8_look 44 = .ok (.isub, 1) := by decide +kernel
theorem dX8_look_45 : decode cX8_look 45 = .ok (.istore_n 2, 1) := by decide +kernel
theorem dX8_look_46 : decode cX8_look 46 = .ok (.iload_n 2, 1) := by decide +kernel
theorem dX8_look_47 : decode cX8_look 47 = .ok (.ifCond .lt 112, 3) := by decide +kernel
theorem dX8_look_50 : decode cX8_look 50 = .ok (.aload_n 0, 1) := by decide +kernel
theorem dX8_look_51 : decode cX8_look 51 = .ok (.getfield 100, 3) := by decide +kernel
theorem dX8_look_54 : decode cX8_look 54 = .ok (.iload_n 2, 1) := by decide +kernel
theorem dX8_look_55 : decode cX8_look 55 = .ok (.baload, 1) := by decide +kernel
theorem dX8_look_56 : decode cX8_look 56 = .ok (.ifCond .ne 6, 3) := by decide +kernel
theorem dX8_look_59 : decode cX8_look 59 = .ok (.goto 94, 3) := by decide +kernel
theorem dX8_look_62 : decode cX8_look 62 = .ok (.iinc 1 1, 3) := by decide +kernel
theorem dX8_look_65 : decode cX8_look 65 = .ok (.aload_n 0, 1) := by decide +kernel
theorem dX8_look_66 : decode cX8_look 66 = .ok (.getfield 43, 3) := by decide +kernel
theorem dX8_look_69 : decode cX8_look 69 = .ok (.iload_n 2, 1) := by decide +kernel
theorem dX8_look_70 : decode cX8_look 70 = .ok (.iaload, 1) := by decide +kernel
theorem dX8_look_71 : decode cX8_look 71 = .ok (.bipush 14, 2) := by decide +kernel
theorem dX8_look_73 : decode cX8_look 73 = .ok (.if_icmp .lt 6, 3) := by decide +kernel
theorem dX8_look_76 : decode cX8_look 76 = .ok (.goto 77, 3) := by decide +kernel
theorem dX8_look_79 : decode cX8_look 79 = .ok (.aload_n 0, 1) := by decide +kernel
theorem dX8_look_80 : decode cX8_look 80 = .ok (.aload_n 0, 1) := by decide +kernel
theorem dX8_look_81 : decode cX8_look 81 = .ok (.getfield 43, 3) := by decide +kernel
theorem dX8_look_84 : decode cX8_look 84 = .ok (.iload_n 2, 1) := by decide +kernel
theorem dX8_look_85 : decode cX8_look 85 = .ok (.iaload, 1) := by decide +kernel
theorem dX8_look_86 : decode cX8_look 86 = .ok (.aload_n 0, 1) := by decide +kernel
theorem dX8_look_87 : decode cX8_look 87 = .ok (.getfield 46, 3) := by decide +kernel
theorem dX8_look_90 : decode cX8_look 90 = .ok (.iconst 3, 1) := by decide +kernel
theorem dX8_look_91 : decode cX8_look 91 = .ok (.iload_n 2, 1) := by decide +kernel
theorem dX8_look_92 : decode cX8_look 92 = .ok (.imul, 1) := by decide +kernel
theorem dX8_look_93 : decode cX8_look 93 = .ok (.iaload, 1) := by decide +kernel
theorem dX8_look_94 : decode cX8_look 94 = .ok (.invokevirtual 239, 3) := by decide +kernel
theorem dX8_look_97 : decode cX8_look 97 = .ok (.istore_n 3, 1) := by decide +kernel
theorem dX8_look_98 : decode cX8_look 98 = .ok (.aload_n 0, 1) := by decide +kernel
theorem dX8_look_99 : decode cX8_look 99 = .ok (.iload_n 3, 1) := by decide +kernel
theorem dX8_look_100 : decode cX8_look 100 = .ok (.bipush 100, 2) := by decide +kernel
theorem dX8_look_102 : decode cX8_look 102 = .ok (.idiv, 1) := by decide +kernel
theorem dX8_look_103 : decode cX8_look 103 = .ok (.aload_n 0, 1) := by decide +kernel
theorem dX8_look_104 : decode cX8_look 104 = .ok (.getfield 46, 3) := by decide +kernel
theorem dX8_look_107 : decode cX8_look 107 = .ok (.iconst 3, 1) := by decide +kernel
theorem dX8_look_108 : decode cX8_look 108 = .ok (.iload_n 2, 1) := by decide +kernel
theorem dX8_look_109 : decode cX8_look 109 = .ok (.imul, 1) := by decide +kernel
theorem dX8_look_110 : decode cX8_look 110 = .ok (.iaload, 1) := by decide +kernel
theorem dX8_look_111 : decode cX8_look 111 = .ok (.invokevirtual 262, 3) := by decide +kernel
theorem dX8_look_114 : decode cX8_look 114 = .ok (.aload_n 0, 1) := by decide +kernel
theorem dX8_look_115 : decode cX8_look 115 = .ok (.iload_n 3, 1) := by decide +kernel
theorem dX8_look_116 : decode cX8_look 116 = .ok (.bipush 10, 2) := by decide +kernel
theorem dX8_look_118 : decode cX8_look 118 = .ok (.idiv, 1) := by decide +kernel
theorem dX8_look_119 : decode cX8_look 119 = .ok (.bipush 10, 2) := by decide +kernel
theorem dX8_look_121 : decode cX8_look 121 = .ok (.irem, 1) := by decide +kernel
theorem dX8_look_122 : decode cX8_look 122 = .ok (.aload_n 0, 1) := by decide +kernel
theorem dX8_look_123 : decode cX8_look 123 = .ok (.getfield 46, 3) := by decide +kernel
theorem dX8_look_126 : decode cX8_look 126 = .ok (.iconst 3, 1) := by decide +kernel
theorem dX8_look_127 : decode cX8_look 127 = .ok (.iload_n 2, 1) := by decide +kernel
theorem dX8_look_128 : decode cX8_look 128 = .ok (.imul, 1) := by decide +kernel
theorem dX8_look_129 : decode cX8_look 129 = .ok (.iconst 1, 1) := by decide +kernel
theorem dX8_look_130 : decode cX8_look 130 = .ok (.iadd, 1) := by decide +kernel
theorem dX8_look_131 : decode cX8_look 131 = .ok (.iaload, 1) := by decide +kernel
theorem dX8_look_132 : decode cX8_look 132 = .ok (.invokevirtual 262, 3) := by decide +kernel
theorem dX8_look_135 : decode cX8_look 135 = .ok (.aload_n 0, 1) := by decide +kernel
theorem dX8_look_136 : decode cX8_look 136 = .ok (.iload_n 3, 1) := by decide +kernel
theorem dX8_look_137 : decode cX8_look 137 = .ok (.bipush 10, 2) := by decide +kernel
theorem dX8_look_139 : decode cX8_look 139 = .ok (.irem, 1) := by decide +kernel
theorem dX8_look_140 : decode cX8_look 140 = .ok (.aload_n 0, 1) := by decide +kernel
theorem dX8_look_141 : decode cX8_look 141 = .ok (.getfield 46, 3) := by decide +kernel
theorem dX8_look_144 : decode cX8_look 144 = .ok (.iconst 3, 1) := by decide +kernel
theorem dX8_look_145 : decode cX8_look 145 = .ok (.iload_n 2, 1) := by decide +kernel
theorem dX8_look_146 : decode cX8_look 146 = .ok (.imul, 1) := by decide +kernel
theorem dX8_look_147 : decode cX8_look 147 = .ok (.iconst 2, 1) := by decide +kernel
theorem dX8_look_148 : decode cX8_look 148 = .ok (.iadd, 1) := by decide +kernel
theorem dX8_look_149 : decode cX8_look 149 = .ok (.iaload, 1) := by decide +kernel
theorem dX8_look_150 : decode cX8_look 150 = .ok (.invokevirtual 262, 3) := by decide +kernel
theorem dX8_look_153 : decode cX8_look 153 = .ok (.iinc 2 (-1), 3) := by decide +kernel
theorem dX8_look_156 : decode cX8_look 156 = .ok (.goto (-110), 3) := by decide +kernel
theorem dX8_look_159 : decode cX8_look 159 = .ok (.iload_n 1, 1) := by decide +kernel
theorem dX8_look_160 : decode cX8_look 160 = .ok (.ireturn, 1) := by decide +kernel
theorem dX8_counted_0 : decode cX8_counted 0 = .ok (.bipush 9, 2) := by decide +kernel
theorem dX8_counted_2 : decode cX8_counted 2 = .ok (.newarray .int, 2) := by decide +kernel
theorem dX8_counted_4 : decode cX8_counted 4 = .ok (.dup, 1) := by decide +kernel
theorem dX8_counted_5 : decode cX8_counted 5 = .ok (.iconst 0, 1) := by decide +kernel
theorem dX8_counted_6 : decode cX8_counted 6 = .ok (.aload_n 0, 1) := by decide +kernel
theorem dX8_counted_7 : decode cX8_counted 7 = .ok (.getfield 109, 3) := by decide +kernel
theorem dX8_counted_10 : decode cX8_counted 10 = .ok (.iastore, 1) := by decide +kernel
theorem dX8_counted_11 : decode cX8_counted 11 = .ok (.dup, 1) := by decide +kernel
theorem dX8_counted_12 : decode cX8_counted 12 = .ok (.iconst 1, 1) := by decide +kernel
theorem dX8_counted_13 : decode cX8_counted 13 = .ok (.aload_n 0, 1) := by decide +kernel
theorem dX8_counted_14 : decode cX8_counted 14 = .ok (.getfield 116, 3) := by decide +kernel
theorem dX8_counted_17 : decode cX8_counted 17 = .ok (.iastore, 1) := by decide +kernel
theorem dX8_counted_18 : decode cX8_counted 18 = .ok (.dup, 1) := by decide +kernel
theorem dX8_counted_19 : decode cX8_counted 19 = .ok (.iconst 2, 1) := by decide +kernel
theorem dX8_counted_20 : decode cX8_counted 20 = .ok (.aload_n 0, 1) := by decide +kernel
theorem dX8_counted_21 : decode cX8_counted 21 = .ok (.getfield 196, 3) := by decide +kernel
theorem dX8_counted_24 : decode cX8_counted 24 = .ok (.iastore, 1) := by decide +kernel
theorem dX8_counted_25 : decode cX8_counted 25 = .ok (.dup, 1) := by decide +kernel
theorem dX8_counted_26 : decode cX8_counted 26 = .ok (.iconst 3, 1) := by decide +kernel
theorem dX8_counted_27 : decode cX8_counted 27 = .ok (.aload_n 0, 1) := by decide +kernel
theorem dX8_counted_28 : decode cX8_counted 28 = .ok (.getfield 199, 3) := by decide +kernel
theorem dX8_counted_31 : decode cX8_counted 31 = .ok (.iastore, 1) := by decide +kernel
theorem dX8_counted_32 : decode cX8_counted 32 = .ok (.dup, 1) := by decide +kernel
theorem dX8_counted_33 : decode cX8_counted 33 = .ok (.iconst 4, 1) := by decide +kernel
theorem dX8_counted_34 : decode cX8_counted 34 = .ok (.aload_n 0, 1) := by decide +kernel
theorem dX8_counted_35 : decode cX8_counted 35 = .ok (.getfield 202, 3) := by decide +kernel
theorem dX8_counted_38 : decode cX8_counted 38 = .ok (.iastore, 1) := by decide +kernel
theorem dX8_counted_39 : decode cX8_counted 39 = .ok (.dup, 1) := by decide +kernel
theorem dX8_counted_40 : decode cX8_counted 40 = .ok (.iconst 5, 1) := by decide +kernel
theorem dX8_counted_41 : decode cX8_counted 41 = .ok (.aload_n 0, 1) := by decide +kernel
theorem dX8_counted_42 : decode cX8_counted 42 = .ok (.invokevirtual 218, 3) := by decide +kernel
theorem dX8_counted_45 : decode cX8_counted 45 = .ok (.iastore, 1) := by decide +kernel
theorem dX8_counted_46 : decode cX8_counted 46 = .ok (.dup, 1) := by decide +kernel
theorem dX8_counted_47 : decode cX8_counted 47 = .ok (.bipush 6, 2) := by decide +kernel
theorem dX8_counted_49 : decode cX8_counted 49 = .ok (.aload_n 0, 1) := by decide +kernel
theorem dX8_counted_50 : decode cX8_counted 50 = .ok (.invokevirtual 211, 3) := by decide +kernel
theorem dX8_counted_53 : decode cX8_counted 53 = .ok (.iastore, 1) := by decide +kernel
theorem dX8_counted_54 : decode cX8_counted 54 = .ok (.dup, 1) := by decide +kernel
theorem dX8_counted_55 : decode cX8_counted 55 = .ok (.bipush 7, 2) := by decide +kernel
theorem dX8_counted_57 : decode cX8_counted 57 = .ok (.aload_n 0, 1) := by decide +kernel
theorem dX8_counted_58 : decode cX8_counted 58 = .ok (.getfield 227, 3) := by decide +kernel
theorem dX8_counted_61 : decode cX8_counted 61 = .ok (.iastore, 1) := by decide +kernel
theorem dX8_counted_62 : decode cX8_counted 62 = .ok (.dup, 1) := by decide +kernel
theorem dX8_counted_63 : decode cX8_counted 63 = .ok (.bipush 8, 2) := by decide +kernel
theorem dX8_counted_65 : decode cX8_counted 65 = .ok (.aload_n 0, 1) := by decide +kernel
theorem dX8_counted_66 : decode cX8_counted 66 = .ok (.invokevirtual 265, 3) := by decide +kernel
theorem dX8_counted_69 : decode cX8_counted 69 = .ok (.iastore, 1) := by decide +kernel
theorem dX8_counted_70 : decode cX8_counted 70 = .ok (.astore_n 2, 1) := by decide +kernel
theorem dX8_counted_71 : decode cX8_counted 71 = .ok (.aload_n 2, 1) := by decide +kernel
theorem dX8_counted_72 : decode cX8_counted 72 = .ok (.iload_n 1, 1) := by decide +kernel
theorem dX8_counted_73 : decode cX8_counted 73 = .ok (.iaload, 1) := by decide +kernel
theorem dX8_counted_74 : decode cX8_counted 74 = .ok (.ireturn, 1) := by decide +kernel
theorem dX8_count_0 : decode cX8_count 0 = .ok (.aload_n 0, 1) := by decide +kernel
theorem dX8_count_1 : decode cX8_count 1 = .ok (.iconst 0, 1) := by decide +kernel
theorem dX8_count_2 : decode cX8_count 2 = .ok (.putfield 106, 3) := by decide +kernel
theorem dX8_count_5 : decode cX8_count 5 = .ok (.iload_n 1, 1) := by decide +kernel
theorem dX8_count_6 : decode cX8_count 6 = .ok (.iconst 0, 1) := by decide +kernel
theorem dX8_count_7 : decode cX8_count 7 = .ok (.bipush 8, 2) := by decide +kernel
theorem dX8_count_9 : decode cX8_count 9 = .ok (.invokestatic 112, 3) := by decide +kernel
theorem dX8_count_12 : decode cX8_count 12 = .ok (.ifCond .eq 11, 3) := by decide +kernel
theorem dX8_count_15 : decode cX8_count 15 = .ok (.aload_n 0, 1) := by decide +kernel
theorem dX8_count_16 : decode cX8_count 16 = .ok (.iload_n 1, 1) := by decide +kernel
theorem dX8_count_17 : decode cX8_count 17 = .ok (.invokevirtual 268, 3) := by decide +kernel
theorem dX8_count_20 : decode cX8_count 20 = .ok (.goto 8, 3) := by decide +kernel
theorem dX8_count_23 : decode cX8_count 23 = .ok (.aload_n 0, 1) := by decide +kernel
theorem dX8_count_24 : decode cX8_count 24 = .ok (.iconst 1, 1) := by decide +kernel
theorem dX8_count_25 : decode cX8_count 25 = .ok (.invokevirtual 119, 3) := by decide +kernel
theorem dX8_count_28 : decode cX8_count 28 = .ok (.ireturn, 1) := by decide +kernel
theorem dX8_lineTold_0 : decode cX8_lineTold 0 = .ok (.iload_n 2, 1) := by decide +kernel
theorem dX8_lineTold_1 : decode cX8_lineTold 1 = .ok (.iconst 2, 1) := by decide +kernel
theorem dX8_lineTold_2 : decode cX8_lineTold 2 = .ok (.if_icmp .ge 23, 3) := by decide +kernel
theorem dX8_lineTold_5 : decode cX8_lineTold 5 = .ok (.iload_n 2, 1) := by decide +kernel
theorem dX8_lineTold_6 : decode cX8_lineTold 6 = .ok (.ifCond .ne 12, 3) := by decide +kernel
theorem dX8_lineTold_9 : decode cX8_lineTold 9 = .ok (.aload_n 0, 1) := by decide +kernel
theorem dX8_lineTold_10 : decode cX8_lineTold 10 = .ok (.getfield 40, 3) := by decide +kernel
theorem dX8_lineTold_13 : decode cX8_lineTold 13 = .ok (.iload_n 1, 1) := by decide +kernel
theorem dX8_lineTold_14 : decode cX8_lineTold 14 = .ok (.iaload, 1) := by decide +kernel
theorem dX8_lineTold_15 : decode cX8_lineTold 15 = .ok (.goto 9, 3) := by decide +kernel
theorem dX8_lineTold_18 : decode cX8_lineTold 18 = .ok (.aload_n 0, 1) := by decide +kernel
theorem dX8_lineTold_19 : decode cX8_lineTold 19 = .ok (.getfield 43, 3) := by decide +kernel
theorem dX8_lineTold_22 : decode cX8_lineTold 22 = .ok (.iload_n 1, 1) := by decide +kernel
theorem dX8_lineTold_23 : decode cX8_lineTold 23 = .ok (.iaload, 1) := by decide +kernel
theorem dX8_lineTold_24 : decode cX8_lineTold 24 = .ok (.ireturn, 1) := by decide +kernel
theorem dX8_lineTold_25 : decode cX8_lineTold 25 = .ok (.iload_n 2, 1) := by decide +kernel
theorem dX8_lineTold_26 : decode cX8_lineTold 26 = .ok (.iconst 5, 1) := by decide +kernel
theorem dX8_lineTold_27 : decode cX8_lineTold 27 = .ok (.if_icmp .ge 16, 3) := by decide +kernel
theorem dX8_lineTold_30 : decode cX8_lineTold 30 = .ok (.aload_n 0, 1) := by decide +kernel
theorem dX8_lineTold_31 : decode cX8_lineTold 31 = .ok (.getfield 46, 3) := by decide +kernel
theorem dX8_lineTold_34 : decode cX8_lineTold 34 = .ok (.iconst 3, 1) := by decide +kernel
theorem dX8_lineTold_35 : decode cX8_lineTold 35 = .ok (.iload_n 1, 1) := by decide +kernel
theorem dX8_lineTold_36 : decode cX8_lineTold 36 = .ok (.imul, 1) := by decide +kernel
theorem dX8_lineTold_37 : decode cX8_lineTold 37 = .ok (.iload_n 2, 1) := by decide +kernel
theorem dX8_lineTold_38 : decode cX8_lineTold 38 = .ok (.iadd, 1) := by decide +kernel
theorem dX8_lineTold_39 : decode cX8_lineTold 39 = .ok (.iconst 2, 1) := by decide +kernel
theorem dX8_lineTold_40 : decode cX8_lineTold 40 = .ok (.isub, 1) := by decide +kernel
theorem dX8_lineTold_41 : decode cX8_lineTold 41 = .ok (.iaload, 1) := by decide +kernel
theorem dX8_lineTold_42 : decode cX8_lineTold 42 = .ok (.ireturn, 1) := by decide +kernel
theorem dX8_lineTold_43 : decode cX8_lineTold 43 = .ok (.iload_n 2, 1) := by decide +kernel
theorem dX8_lineTold_44 : decode cX8_lineTold 44 = .ok (.iconst 5, 1) := by decide +kernel
theorem dX8_lineTold_45 : decode cX8_lineTold 45 = .ok (.if_icmp .ne 10, 3) := by decide +kernel
theorem dX8_lineTold_48 : decode cX8_lineTold 48 = .ok (.aload_n 0, 1) := by decide +kernel
theorem dX8_lineTold_49 : decode cX8_lineTold 49 = .ok (.getfield 49, 3) := by decide +kernel
theorem dX8_lineTold_52 : decode cX8_lineTold 52 = .ok (.iload_n 1, 1) := by decide +kernel
theorem dX8_lineTold_53 : decode cX8_lineTold 53 = .ok (.iaload, 1) := by decide +kernel
theorem dX8_lineTold_54 : decode cX8_lineTold 54 = .ok (.ireturn, 1) := by decide +kernel
theorem dX8_lineTold_55 : decode cX8_lineTold 55 = .ok (.iload_n 2, 1) := by decide +kernel
theorem dX8_lineTold_56 : decode cX8_lineTold 56 = .ok (.bipush 6, 2) := by decide +kernel
theorem dX8_lineTold_58 : decode cX8_lineTold 58 = .ok (.if_icmp .ne 17, 3) := by decide +kernel
theorem dX8_lineTold_61 : decode cX8_lineTold 61 = .ok (.aload_n 0, 1) := by decide +kernel
theorem dX8_lineTold_62 : decode cX8_lineTold 62 = .ok (.iload_n 1, 1) := by decide +kernel
theorem dX8_lineTold_63 : decode cX8_lineTold 63 = .ok (.invokevirtual 230, 3) := by decide +kernel
theorem dX8_lineTold_66 : decode cX8_lineTold 66 = .ok (.ifCond .eq 7, 3) := by decide +kernel
theorem dX8_lineTold_69 : decode cX8_lineTold 69 = .ok (.iconst 1, 1) := by decide +kernel
theorem dX8_lineTold_70 : decode cX8_lineTold 70 = .ok (.goto 4, 3) := by decide +kernel
theorem dX8_lineTold_73 : decode cX8_lineTold 73 = .ok (.iconst 0, 1) := by decide +kernel
theorem dX8_lineTold_74 : decode cX8_lineTold 74 = .ok (.ireturn, 1) := by decide +kernel
theorem dX8_lineTold_75 : decode cX8_lineTold 75 = .ok (.aload_n 0, 1) := by decide +kernel
theorem dX8_lineTold_76 : decode cX8_lineTold 76 = .ok (.invokevirtual 265, 3) := by decide +kernel
theorem dX8_lineTold_79 : decode cX8_lineTold 79 = .ok (.pop, 1) := by decide +kernel
theorem dX8_lineTold_80 : decode cX8_lineTold 80 = .ok (.aload_n 0, 1) := by decide +kernel
theorem dX8_lineTold_81 : decode cX8_lineTold 81 = .ok (.getfield 100, 3) := by decide +kernel
theorem dX8_lineTold_84 : decode cX8_lineTold 84 = .ok (.iload_n 1, 1) := by decide +kernel
theorem dX8_lineTold_85 : decode cX8_lineTold 85 = .ok (.baload, 1) := by decide +kernel
theorem dX8_lineTold_86 : decode cX8_lineTold 86 = .ok (.ifCond .eq 7, 3) := by decide +kernel
theorem dX8_lineTold_89 : decode cX8_lineTold 89 = .ok (.iconst 1, 1) := by decide +kernel
theorem dX8_lineTold_90 : decode cX8_lineTold 90 = .ok (.goto 4, 3) := by decide +kernel
theorem dX8_lineTold_93 : decode cX8_lineTold 93 = .ok (.iconst 0, 1) := by decide +kernel
theorem dX8_lineTold_94 : decode cX8_lineTold 94 = .ok (.ireturn, 1) := by decide +kernel
theorem dX8_line_0 : decode cX8_line 0 = .ok (.aload_n 0, 1) := by decide +kernel
theorem dX8_line_1 : decode cX8_line 1 = .ok (.iconst 0, 1) := by decide +kernel
theorem dX8_line_2 : decode cX8_line 2 = .ok (.putfield 106, 3) := by decide +kernel
theorem dX8_line_5 : decode cX8_line 5 = .ok (.iload_n 1, 1) := by decide +kernel
theorem dX8_line_6 : decode cX8_line 6 = .ok (.iconst 0, 1) := by decide +kernel
theorem dX8_line_7 : decode cX8_line 7 = .ok (.aload_n 0, 1) := by decide +kernel
theorem dX8_line_8 : decode cX8_line 8 = .ok (.getfield 199, 3) := by decide +kernel
theorem dX8_line_11 : decode cX8_line 11 = .ok (.iconst 1, 1) := by decide +kernel
theorem dX8_line_12 : decode cX8_line 12 = .ok (.isub, 1) := by decide +kernel
theorem dX8_line_13 : decode cX8_line 13 = .ok (.invokestatic 112, 3) := by decide +kernel
theorem dX8_line_16 : decode cX8_line 16 = .ok (.ifCond .eq 22, 3) := by decide +kernel
theorem dX8_line_19 : decode cX8_line 19 = .ok (.iload_n 2, 1) := by decide +kernel
theorem dX8_line_20 : decode cX8_line 20 = .ok (.iconst 0, 1) := by decide +kernel
theorem dX8_line_21 : decode cX8_line 21 = .ok (.bipush 7, 2) := by decide +kernel
theorem dX8_line_23 : decode cX8_line 23 = .ok (.invokestatic 112, 3) := by decide +kernel
theorem dX8_line_26 : decode cX8_line 26 = .ok (.ifCond .eq 12, 3) := by decide +kernel
theorem dX8_line_29 : decode cX8_line 29 = .ok (.aload_n 0, 1) := by decide +kernel
theorem dX8_line_30 : decode cX8_line 30 = .ok (.iload_n 1, 1) := by decide +kernel
theorem dX8_line_31 : decode cX8_line 31 = .ok (.iload_n 2, 1) := by decide +kernel
theorem dX8_line_32 : decode cX8_line 32 = .ok (.invokevirtual 271, 3) := by decide +kernel
theorem dX8_line_35 : decode cX8_line 35 = .ok (.goto 8, 3) := by decide +kernel
theorem dX8_line_38 : decode cX8_line 38 = .ok (.aload_n 0, 1) := by decide +kernel
theorem dX8_line_39 : decode cX8_line 39 = .ok (.iconst 1, 1) := by decide +kernel
theorem dX8_line_40 : decode cX8_line 40 = .ok (.invokevirtual 119, 3) := by decide +kernel
theorem dX8_line_43 : decode cX8_line 43 = .ok (.ireturn, 1) := by decide +kernel
theorem dX8_boxTold_0 : decode cX8_boxTold 0 = .ok (.iload_n 2, 1) := by decide +kernel
theorem dX8_boxTold_1 : decode cX8_boxTold 1 = .ok (.ifCond .ne 12, 3) := by decide +kernel
theorem dX8_boxTold_4 : decode cX8_boxTold 4 = .ok (.aload_n 0, 1) := by decide +kernel
theorem dX8_boxTold_5 : decode cX8_boxTold 5 = .ok (.getfield 52, 3) := by decide +kernel
theorem dX8_boxTold_8 : decode cX8_boxTold 8 = .ok (.iload_n 1, 1) := by decide +kernel
theorem dX8_boxTold_9 : decode cX8_boxTold 9 = .ok (.iaload, 1) := by decide +kernel
theorem dX8_boxTold_10 : decode cX8_boxTold 10 = .ok (.goto 44, 3) := by decide +kernel
theorem dX8_boxTold_13 : decode cX8_boxTold 13 = .ok (.iload_n 2, 1) := by decide +kernel
theorem dX8_boxTold_14 : decode cX8_boxTold 14 = .ok (.iconst 1, 1) := by decide +kernel
theorem dX8_boxTold_15 : decode cX8_boxTold 15 = .ok (.if_icmp .ne 12, 3) := by decide +kernel
theorem dX8_boxTold_18 : decode cX8_boxTold 18 = .ok (.aload_n 0, 1) := by decide +kernel
theorem dX8_boxTold_19 : decode cX8_boxTold 19 = .ok (.getfield 55, 3) := by decide +kernel
theorem dX8_boxTold_22 : decode cX8_boxTold 22 = .ok (.iload_n 1, 1) := by decide +kernel
theorem dX8_boxTold_23 : decode cX8_boxTold 23 = .ok (.iaload, 1) := by decide +kernel
theorem dX8_boxTold_24 : decode cX8_boxTold 24 = .ok (.goto 30, 3) := by decide +kernel
theorem dX8_boxTold_27 : decode cX8_boxTold 27 = .ok (.iload_n 2, 1) := by decide +kernel
theorem dX8_boxTold_28 : decode cX8_boxTold 28 = .ok (.iconst 2, 1) := by decide +kernel
theorem dX8_boxTold_29 : decode cX8_boxTold 29 = .ok (.if_icmp .ne 12, 3) := by decide +kernel
theorem dX8_boxTold_32 : decode cX8_boxTold 32 = .ok (.aload_n 0, 1) := by decide +kernel
theorem dX8_boxTold_33 : decode cX8_boxTold 33 = .ok (.getfield 58, 3) := by decide +kernel
theorem dX8_boxTold_36 : decode cX8_boxTold 36 = .ok (.iload_n 1, 1) := by decide +kernel
theorem dX8_boxTold_37 : decode cX8_boxTold 37 = .ok (.iaload, 1) := by decide +kernel
theorem dX8_boxTold_38 : decode cX8_boxTold 38 = .ok (.goto 16, 3) := by decide +kernel
theorem dX8_boxTold_41 : decode cX8_boxTold 41 = .ok (.aload_n 0, 1) := by decide +kernel
theorem dX8_boxTold_42 : decode cX8_boxTold 42 = .ok (.iload_n 1, 1) := by decide +kernel
theorem dX8_boxTold_43 : decode cX8_boxTold 43 = .ok (.invokevirtual 233, 3) := by decide +kernel
theorem dX8_boxTold_46 : decode cX8_boxTold 46 = .ok (.ifCond .eq 7, 3) := by decide +kernel
theorem dX8_boxTold_49 : decode cX8_boxTold 49 = .ok (.iconst 1, 1) := by decide +kernel
theorem dX8_boxTold_50 : decode cX8_boxTold 50 = .ok (.goto 4, 3) := by decide +kernel
theorem dX8_boxTold_53 : decode cX8_boxTold 53 = .ok (.iconst 0, 1) := by decide +kernel
theorem dX8_boxTold_54 : decode cX8_boxTold 54 = .ok (.ireturn, 1) := by decide +kernel
theorem dX8_box_0 : decode cX8_box 0 = .ok (.aload_n 0, 1) := by decide +kernel
theorem dX8_box_1 : decode cX8_box 1 = .ok (.iconst 0, 1) := by decide +kernel
theorem dX8_box_2 : decode cX8_box 2 = .ok (.putfield 106, 3) := by decide +kernel
theorem dX8_box_5 : decode cX8_box 5 = .ok (.iload_n 1, 1) := by decide +kernel
theorem dX8_box_6 : decode cX8_box 6 = .ok (.iconst 0, 1) := by decide +kernel
theorem dX8_box_7 : decode cX8_box 7 = .ok (.aload_n 0, 1) := by decide +kernel
theorem dX8_box_8 : decode cX8_box 8 = .ok (.getfield 202, 3) := by decide +kernel
theorem dX8_box_11 : decode cX8_box 11 = .ok (.iconst 1, 1) := by decide +kernel
theorem dX8_box_12 : decode cX8_box 12 = .ok (.isub, 1) := by decide +kernel
theorem dX8_box_13 : decode cX8_box 13 = .ok (.invokestatic 112, 3) := by decide +kernel
theorem dX8_box_16 : decode cX8_box 16 = .ok (.ifCond .eq 21, 3) := by decide +kernel
theorem dX8_box_19 : decode cX8_box 19 = .ok (.iload_n 2, 1) := by decide +kernel
theorem dX8_box_20 : decode cX8_box 20 = .ok (.iconst 0, 1) := by decide +kernel
theorem dX8_box_21 : decode cX8_box 21 = .ok (.iconst 3, 1) := by decide +kernel
theorem dX8_box_22 : decode cX8_box 22 = .ok (.invokestatic 112, 3) := by decide +kernel
theorem dX8_box_25 : decode cX8_box 25 = .ok (.ifCond .eq 12, 3) := by decide +kernel
theorem dX8_box_28 : decode cX8_box 28 = .ok (.aload_n 0, 1) := by decide +kernel
theorem dX8_box_29 : decode cX8_box 29 = .ok (.iload_n 1, 1) := by decide +kernel
theorem dX8_box_30 : decode cX8_box 30 = .ok (.iload_n 2, 1) := by decide +kernel
theorem dX8_box_31 : decode cX8_box 31 = .ok (.invokevirtual 274, 3) := by decide +kernel
theorem dX8_box_34 : decode cX8_box 34 = .ok (.goto 8, 3) := by decide +kernel
theorem dX8_box_37 : decode cX8_box 37 = .ok (.aload_n 0, 1) := by decide +kernel
theorem dX8_box_38 : decode cX8_box 38 = .ok (.iconst 1, 1) := by decide +kernel
theorem dX8_box_39 : decode cX8_box 39 = .ok (.invokevirtual 119, 3) := by decide +kernel
theorem dX8_box_42 : decode cX8_box 42 = .ok (.ireturn, 1) := by decide +kernel
theorem dX8_fails_0 : decode cX8_fails 0 = .ok (.aload_n 0, 1) := by decide +kernel
theorem dX8_fails_1 : decode cX8_fails 1 = .ok (.iconst 0, 1) := by decide +kernel
theorem dX8_fails_2 : decode cX8_fails 2 = .ok (.putfield 106, 3) := by decide +kernel
theorem dX8_fails_5 : decode cX8_fails 5 = .ok (.iload_n 1, 1) := by decide +kernel
theorem dX8_fails_6 : decode cX8_fails 6 = .ok (.iconst 0, 1) := by decide +kernel
theorem dX8_fails_7 : decode cX8_fails 7 = .ok (.aload_n 0, 1) := by decide +kernel
theorem dX8_fails_8 : decode cX8_fails 8 = .ok (.getfield 199, 3) := by decide +kernel
theorem dX8_fails_11 : decode cX8_fails 11 = .ok (.iconst 1, 1) := by decide +kernel
theorem dX8_fails_12 : decode cX8_fails 12 = .ok (.isub, 1) := by decide +kernel
theorem dX8_fails_13 : decode cX8_fails 13 = .ok (.invokestatic 112, 3) := by decide +kernel
theorem dX8_fails_16 : decode cX8_fails 16 = .ok (.ifCond .ne 9, 3) := by decide +kernel
theorem dX8_fails_19 : decode cX8_fails 19 = .ok (.aload_n 0, 1) := by decide +kernel
theorem dX8_fails_20 : decode cX8_fails 20 = .ok (.iconst 1, 1) := by decide +kernel
theorem dX8_fails_21 : decode cX8_fails 21 = .ok (.invokevirtual 119, 3) := by decide +kernel
theorem dX8_fails_24 : decode cX8_fails 24 = .ok (.ireturn, 1) := by decide +kernel
theorem dX8_fails_25 : decode cX8_fails 25 = .ok (.iconst 0, 1) := by decide +kernel
theorem dX8_fails_26 : decode cX8_fails 26 = .ok (.istore_n 2, 1) := by decide +kernel
theorem dX8_fails_27 : decode cX8_fails 27 = .ok (.aload_n 0, 1) := by decide +kernel
theorem dX8_fails_28 : decode cX8_fails 28 = .ok (.invokevirtual 211, 3) := by decide +kernel
theorem dX8_fails_31 : decode cX8_fails 31 = .ok (.istore_n 3, 1) := by decide +kernel
theorem dX8_fails_32 : decode cX8_fails 32 = .ok (.iconst 0, 1) := by decide +kernel
theorem dX8_fails_33 : decode cX8_fails 33 = .ok (.istore 4, 2) := by decide +kernel
theorem dX8_fails_35 : decode cX8_fails 35 = .ok (.iload 4, 2) := by decide +kernel
theorem dX8_fails_37 : decode cX8_fails 37 = .ok (.sipush 256, 3) := by decide +kernel
theorem dX8_fails_40 : decode cX8_fails 40 = .ok (.if_icmp .ge 146, 3) := by decide +kernel
theorem dX8_fails_43 : decode cX8_fails 43 = .ok (.aload_n 0, 1) := by decide +kernel
theorem dX8_fails_44 : decode cX8_fails 44 = .ok (.aload_n 0, 1) := by decide +kernel
theorem dX8_fails_45 : decode cX8_fails 45 = .ok (.getfield 40, 3) := by decide +kernel
theorem dX8_fails_48 : decode cX8_fails 48 = .ok (.iload_n 1, 1) := by decide +kernel
theorem dX8_fails_49 : decode cX8_fails 49 = .ok (.iaload, 1) := by decide +kernel
theorem dX8_fails_50 : decode cX8_fails 50 = .ok (.iload 4, 2) := by decide +kernel
theorem dX8_fails_52 : decode cX8_fails 52 = .ok (.invokevirtual 134, 3) := by decide +kernel
theorem dX8_fails_55 : decode cX8_fails 55 = .ok (.ifCond .ne 7, 3) := by decide +kernel
theorem dX8_fails_58 : decode cX8_fails 58 = .ok (.iconst 1, 1) := by decide +kernel
theorem dX8_fails_59 : decode cX8_fails 59 = .ok (.goto 4, 3) := by decide +kernel
theorem dX8_fails_62 : decode cX8_fails 62 = .ok (.iconst 0, 1) := by decide +kernel
theorem dX8_fails_63 : decode cX8_fails 63 = .ok (.istore 5, 2) := by decide +kernel
theorem dX8_fails_65 : decode cX8_fails 65 = .ok (.iconst 0, 1) := by decide +kernel
theorem dX8_fails_66 : decode cX8_fails 66 = .ok (.istore 6, 2) := by decide +kernel
theorem dX8_fails_68 : decode cX8_fails 68 = .ok (.iload 6, 2) := by decide +kernel
theorem dX8_fails_70 : decode cX8_fails 70 = .ok (.iload_n 3, 1) := by decide +kernel
theorem dX8_fails_71 : decode cX8_fails 71 = .ok (.if_icmp .ge 37, 3) := by decide +kernel
theorem dX8_fails_74 : decode cX8_fails 74 = .ok (.iload 5, 2) := by decide +kernel
theorem dX8_fails_76 : decode cX8_fails 76 = .ok (.ifCond .eq 23, 3) := by decide +kernel
theorem dX8_fails_79 : decode cX8_fails 79 = .ok (.aload_n 0, 1) := by decide +kernel
theorem dX8_fails_80 : decode cX8_fails 80 = .ok (.aload_n 0, 1) := by decide +kernel
theorem dX8_fails_81 : decode cX8_fails 81 = .ok (.getfield 40, 3) := by decide +kernel
theorem dX8_fails_84 : decode cX8_fails 84 = .ok (.iload 6, 2) := by decide +kernel
theorem dX8_fails_86 : decode cX8_fails 86 = .ok (.iaload, 1) := by decide +kernel
theorem dX8_fails_87 : decode cX8_fails 87 = .ok (.iload 4, 2) := by decide +kernel
theorem dX8_fails_89 : decode cX8_fails 89 = .ok (.invokevirtual 134, 3) := by decide +kernel
theorem dX8_fails_92 : decode cX8_fails 92 = .ok (.ifCond .eq 7, 3) := by decide +kernel
theorem dX8_fails_95 : decode cX8_fails 95 = .ok (.iconst 1, 1) := by decide +kernel
theorem dX8_fails_96 : decode cX8_fails 96 = .ok (.goto 4, 3) := by decide +kernel
theorem dX8_fails_99 : decode cX8_fails 99 = .ok (.iconst 0, 1) := by decide +kernel
theorem dX8_fails_100 : decode cX8_fails 100 = .ok (.istore 5, 2) := by decide +kernel
theorem dX8_fails_102 : decode cX8_fails 102 = .ok (.iinc 6 1, 3) := by decide +kernel
theorem dX8_fails_105 : decode cX8_fails 105 = .ok (.goto (-37), 3) := by decide +kernel
theorem dX8_fails_108 : decode cX8_fails 108 = .ok (.aload_n 0, 1) := by decide +kernel
theorem dX8_fails_109 : decode cX8_fails 109 = .ok (.getfield 49, 3) := by decide +kernel
theorem dX8_fails_112 : decode cX8_fails 112 = .ok (.iload_n 1, 1) := by decide +kernel
theorem dX8_fails_113 : decode cX8_fails 113 = .ok (.iaload, 1) := by decide +kernel
theorem dX8_fails_114 : decode cX8_fails 114 = .ok (.istore 6, 2) := by decide +kernel
theorem dX8_fails_116 : decode cX8_fails 116 = .ok (.iload 6, 2) := by decide +kernel
theorem dX8_fails_118 : decode cX8_fails 118 = .ok (.iconst (-1), 1) := by decide +kernel
theorem dX8_fails_119 : decode cX8_fails 119 = .ok (.if_icmp .eq 48, 3) := by decide +kernel
theorem dX8_fails_122 : decode cX8_fails 122 = .ok (.iload 5, 2) := by decide +kernel
theorem dX8_fails_124 : decode cX8_fails 124 = .ok (.ifCond .eq 28, 3) := by decide +kernel
theorem dX8_fails_127 : decode cX8_fails 127 = .ok (.aload_n 0, 1) := by decide +kernel
theorem dX8_fails_128 : decode cX8_fails 128 = .ok (.aload_n 0, 1) := by decide +kernel
theorem dX8_fails_129 : decode cX8_fails 129 = .ok (.getfield 40, 3) := by decide +kernel
theorem dX8_fails_132 : decode cX8_fails 132 = .ok (.aload_n 0, 1) := by decide +kernel
theorem dX8_fails_133 : decode cX8_fails 133 = .ok (.getfield 52, 3) := by decide +kernel
theorem dX8_fails_136 : decode cX8_fails 136 = .ok (.iload 6, 2) := by decide +kernel
theorem dX8_fails_138 : decode cX8_fails 138 = .ok (.iaload, 1) := by decide +kernel
theorem dX8_fails_139 : decode cX8_fails 139 = .ok (.iaload, 1) := by decide +kernel
theorem dX8_fails_140 : decode cX8_fails 140 = .ok (.iload 4, 2) := by decide +kernel
theorem dX8_fails_142 : decode cX8_fails 142 = .ok (.invokevirtual 134, 3) := by decide +kernel
theorem dX8_fails_145 : decode cX8_fails 145 = .ok (.ifCond .eq 7, 3) := by decide +kernel
theorem dX8_fails_148 : decode cX8_fails 148 = .ok (.iconst 1, 1) := by decide +kernel
theorem dX8_fails_149 : decode cX8_fails 149 = .ok (.goto 4, 3) := by decide +kernel
theorem dX8_fails_152 : decode cX8_fails 152 = .ok (.iconst 0, 1) := by decide +kernel
theorem dX8_fails_153 : decode cX8_fails 153 = .ok (.istore 5, 2) := by decide +kernel
theorem dX8_fails_155 : decode cX8_fails 155 = .ok (.aload_n 0, 1) := by decide +kernel
theorem dX8_fails_156 : decode cX8_fails 156 = .ok (.getfield 58, 3) := by decide +kernel
theorem dX8_fails_159 : decode cX8_fails 159 = .ok (.iload 6, 2) := by decide +kernel
theorem dX8_fails_161 : decode cX8_fails 161 = .ok (.iaload, 1) := by decide +kernel
theorem dX8_fails_162 : decode cX8_fails 162 = .ok (.istore 6, 2) := by decide +kernel
theorem dX8_fails_164 : decode cX8_fails 164 = .ok (.goto (-48), 3) := by decide +kernel
theorem dX8_fails_167 : decode cX8_fails 167 = .ok (.iload_n 2, 1) := by decide +kernel
theorem dX8_fails_168 : decode cX8_fails 168 = .ok (.iload 5, 2) := by decide +kernel
theorem dX8_fails_170 : decode cX8_fails 170 = .ok (.ifCond .eq 7, 3) := by decide +kernel
theorem dX8_fails_173 : decode cX8_fails 173 = .ok (.iconst 1, 1) := by decide +kernel
theorem dX8_fails_174 : decode cX8_fails 174 = .ok (.goto 4, 3) := by decide +kernel
theorem dX8_fails_177 : decode cX8_fails 177 = .ok (.iconst 0, 1) := by decide +kernel
theorem dX8_fails_178 : decode cX8_fails 178 = .ok (.iadd, 1) := by decide +kernel
theorem dX8_fails_179 : decode cX8_fails 179 = .ok (.istore_n 2, 1) := by decide +kernel
theorem dX8_fails_180 : decode cX8_fails 180 = .ok (.iinc 4 1, 3) := by decide +kernel
theorem dX8_fails_183 : decode cX8_fails 183 = .ok (.goto (-148), 3) := by decide +kernel
theorem dX8_fails_186 : decode cX8_fails 186 = .ok (.iload_n 2, 1) := by decide +kernel
theorem dX8_fails_187 : decode cX8_fails 187 = .ok (.ireturn, 1) := by decide +kernel
theorem dX8_reach_0 : decode cX8_reach 0 = .ok (.iload_n 1, 1) := by decide +kernel
theorem dX8_reach_1 : decode cX8_reach 1 = .ok (.ifCond .ne 7, 3) := by decide +kernel
theorem dX8_reach_4 : decode cX8_reach 4 = .ok (.iconst 1, 1) := by decide +kernel
theorem dX8_reach_5 : decode cX8_reach 5 = .ok (.goto 19, 3) := by decide +kernel
theorem dX8_reach_8 : decode cX8_reach 8 = .ok (.iload_n 1, 1) := by decide +kernel
theorem dX8_reach_9 : decode cX8_reach 9 = .ok (.iconst 1, 1) := by decide +kernel
theorem dX8_reach_10 : decode cX8_reach 10 = .ok (.if_icmp .ne 10, 3) := by decide +kernel
theorem dX8_reach_13 : decode cX8_reach 13 = .ok (.aload_n 0, 1) := by decide +kernel
theorem dX8_reach_14 : decode cX8_reach 14 = .ok (.getfield 199, 3) := by decide +kernel
theorem dX8_reach_17 : decode cX8_reach 17 = .ok (.goto 7, 3) := by decide +kernel
theorem dX8_reach_20 : decode cX8_reach 20 = .ok (.aload_n 0, 1) := by decide +kernel
theorem dX8_reach_21 : decode cX8_reach 21 = .ok (.getfield 202, 3) := by decide +kernel
theorem dX8_reach_24 : decode cX8_reach 24 = .ok (.ireturn, 1) := by decide +kernel
theorem dX8_findHint_0 : decode cX8_findHint 0 = .ok (.iconst 0, 1) := by decide +kernel
theorem dX8_findHint_1 : decode cX8_findHint 1 = .ok (.istore_n 2, 1) := by decide +kernel
theorem dX8_findHint_2 : decode cX8_findHint 2 = .ok (.iload_n 2, 1) := by decide +kernel
theorem dX8_findHint_3 : decode cX8_findHint 3 = .ok (.bipush 13, 2) := by decide +kernel
theorem dX8_findHint_5 : decode cX8_findHint 5 = .ok (.if_icmp .ge 135, 3) := by decide +kernel
theorem dX8_findHint_8 : decode cX8_findHint 8 = .ok (.getstatic 224, 3) := by decide +kernel
theorem dX8_findHint_11 : decode cX8_findHint 11 = .ok (.iload_n 2, 1) := by decide +kernel
theorem dX8_findHint_12 : decode cX8_findHint 12 = .ok (.iaload, 1) := by decide +kernel
theorem dX8_findHint_13 : decode cX8_findHint 13 = .ok (.istore_n 3, 1) := by decide +kernel
theorem dX8_findHint_14 : decode cX8_findHint 14 = .ok (.iconst 0, 1) := by decide +kernel
theorem dX8_findHint_15 : decode cX8_findHint 15 = .ok (.istore 4, 2) := by decide +kernel
theorem dX8_findHint_17 : decode cX8_findHint 17 = .ok (.iload 4, 2) := by decide +kernel
theorem dX8_findHint_19 : decode cX8_findHint 19 = .ok (.aload_n 0, 1) := by decide +kernel
theorem dX8_findHint_20 : decode cX8_findHint 20 = .ok (.iload_n 3, 1) := by decide +kernel
theorem dX8_findHint_21 : decode cX8_findHint 21 = .ok (.bipush 100, 2) := by decide +kernel
theorem dX8_findHint_23 : decode cX8_findHint 23 = .ok (.idiv, 1) := by decide +kernel
theorem dX8_findHint_24 : decode cX8_findHint 24 = .ok (.invokevirtual 277, 3) := by decide +kernel
theorem dX8_findHint_27 : decode cX8_findHint 27 = .ok (.if_icmp .ge 107, 3) := by decide +kernel
theorem dX8_findHint_30 : decode cX8_findHint 30 = .ok (.iconst 0, 1) := by decide +kernel
theorem dX8_findHint_31 : decode cX8_findHint 31 = .ok (.istore 5, 2) := by decide +kernel
theorem dX8_findHint_33 : decode cX8_findHint 33 = .ok (.iload 5, 2) := by decide +kernel
theorem dX8_findHint_35 : decode cX8_findHint 35 = .ok (.aload_n 0, 1) := by decide +kernel
theorem dX8_findHint_36 : decode cX8_findHint 36 = .ok (.iload_n 3, 1) := by decide +kernel
theorem dX8_findHint_37 : decode cX8_findHint 37 = .ok (.bipush 10, 2) := by decide +kernel
theorem dX8_findHint_39 : decode cX8_findHint 39 = .ok (.idiv, 1) := by decide +kernel
theorem dX8_findHint_40 : decode cX8_findHint 40 = .ok (.bipush 10, 2) := by decide +kernel
theorem dX8_findHint_42 : decode cX8_findHint 42 = .ok (.irem, 1) := by decide +kernel
theorem dX8_findHint_43 : decode cX8_findHint 43 = .ok (.invokevirtual 277, 3) := by decide +kernel
theorem dX8_findHint_46 : decode cX8_findHint 46 = .ok (.if_icmp .ge 82, 3) := by decide +kernel
theorem dX8_findHint_49 : decode cX8_findHint 49 = .ok (.iconst 0, 1) := by decide +kernel
theorem dX8_findHint_50 : decode cX8_findHint 50 = .ok (.istore 6, 2) := by decide +kernel
theorem dX8_findHint_52 : decode cX8_findHint 52 = .ok (.iload 6, 2) := by decide +kernel
theorem dX8_findHint_54 : decode cX8_findHint 54 = .ok (.aload_n 0, 1) := by decide +kernel
theorem dX8_findHint_55 : decode cX8_findHint 55 = .ok (.iload_n 3, 1) := by decide +kernel
theorem dX8_findHint_56 : decode cX8_findHint 56 = .ok (.bipush 10, 2) := by decide +kernel
theorem dX8_findHint_58 : decode cX8_findHint 58 = .ok (.irem, 1) := by decide +kernel
theorem dX8_findHint_59 : decode cX8_findHint 59 = .ok (.invokevirtual 277, 3) := by decide +kernel
theorem dX8_findHint_62 : decode cX8_findHint 62 = .ok (.if_icmp .ge 60, 3) := by decide +kernel
theorem dX8_findHint_65 : decode cX8_findHint 65 = .ok (.aload_n 0, 1) := by decide +kernel
theorem dX8_findHint_66 : decode cX8_findHint 66 = .ok (.iload_n 2, 1) := by decide +kernel
theorem dX8_findHint_67 : decode cX8_findHint 67 = .ok (.iload_n 1, 1) := by decide +kernel
theorem dX8_findHint_68 : decode cX8_findHint 68 = .ok (.iload 4, 2) := by decide +kernel
theorem dX8_findHint_70 : decode cX8_findHint 70 = .ok (.iload 5, 2) := by decide +kernel
theorem dX8_findHint_72 : decode cX8_findHint 72 = .ok (.iload 6, 2) := by decide +kernel
theorem dX8_findHint_74 : decode cX8_findHint 74 = .ok (.invokevirtual 259, 3) := by decide +kernel
theorem dX8_findHint_77 : decode cX8_findHint 77 = .ok (.ifCond .eq 6, 3) := by decide +kernel
theorem dX8_findHint_80 : decode cX8_findHint 80 = .ok (.goto 36, 3) := by decide +kernel
theorem dX8_findHint_83 : decode cX8_findHint 83 = .ok (.aload_n 0, 1) := by decide +kernel
theorem dX8_findHint_84 : decode cX8_findHint 84 = .ok (.getfield 103, 3) := by decide +kernel
theorem dX8_findHint_87 : decode cX8_findHint 87 = .ok (.iconst 0, 1) := by decide +kernel
theorem dX8_findHint_88 : decode cX8_findHint 88 = .ok (.iload_n 2, 1) := by decide +kernel
theorem dX8_findHint_89 : decode cX8_findHint 89 = .ok (.iastore, 1) := by decide +kernel
theorem dX8_findHint_90 : decode cX8_findHint 90 = .ok (.aload_n 0, 1) := by decide +kernel
theorem dX8_findHint_91 : decode cX8_findHint 91 = .ok (.getfield 103, 3) := by decide +kernel
theorem dX8_findHint_94 : decode cX8_findHint 94 = .ok (.iconst 1, 1) := by decide +kernel
theorem dX8_findHint_95 : decode cX8_findHint 95 = .ok (.iload 4, 2) := by decide +kernel
theorem dX8_findHint_97 : decode cX8_findHint 97 = .ok (.iastore, 1) := by decide +kernel
theorem dX8_findHint_98 : decode cX8_findHint 98 = .ok (.aload_n 0, 1) := by decide +kernel
theorem dX8_findHint_99 : decode cX8_findHint 99 = .ok (.getfield 103, 3) := by decide +kernel
theorem dX8_findHint_102 : decode cX8_findHint 102 = .ok (.iconst 2, 1) := by decide +kernel
theorem dX8_findHint_103 : decode cX8_findHint 103 = .ok (.iload 5, 2) := by decide +kernel
theorem dX8_findHint_105 : decode cX8_findHint 105 = .ok (.iastore, 1) := by decide +kernel
theorem dX8_findHint_106 : decode cX8_findHint 106 = .ok (.aload_n 0, 1) := by decide +kernel
theorem dX8_findHint_107 : decode cX8_findHint 107 = .ok (.getfield 103, 3) := by decide +kernel
theorem dX8_findHint_110 : decode cX8_findHint 110 = .ok (.iconst 3, 1) := by decide +kernel
theorem dX8_findHint_111 : decode cX8_findHint 111 = .ok (.iload 6, 2) := by decide +kernel
theorem dX8_findHint_113 : decode cX8_findHint 113 = .ok (.iastore, 1) := by decide +kernel
theorem dX8_findHint_114 : decode cX8_findHint 114 = .ok (.iconst 1, 1) := by decide +kernel
theorem dX8_findHint_115 : decode cX8_findHint 115 = .ok (.ireturn, 1) := by decide +kernel
theorem dX8_findHint_116 : decode cX8_findHint 116 = .ok (.iinc 6 1, 3) := by decide +kernel
theorem dX8_findHint_119 : decode cX8_findHint 119 = .ok (.goto (-67), 3) := by decide +kernel
theorem dX8_findHint_122 : decode cX8_findHint 122 = .ok (.iinc 5 1, 3) := by decide +kernel
theorem dX8_findHint_125 : decode cX8_findHint 125 = .ok (.goto (-92), 3) := by decide +kernel
theorem dX8_findHint_128 : decode cX8_findHint 128 = .ok (.iinc 4 1, 3) := by decide +kernel
theorem dX8_findHint_131 : decode cX8_findHint 131 = .ok (.goto (-114), 3) := by decide +kernel
theorem dX8_findHint_134 : decode cX8_findHint 134 = .ok (.iinc 2 1, 3) := by decide +kernel
theorem dX8_findHint_137 : decode cX8_findHint 137 = .ok (.goto (-135), 3) := by decide +kernel
theorem dX8_findHint_140 : decode cX8_findHint 140 = .ok (.iconst 0, 1) := by decide +kernel
theorem dX8_findHint_141 : decode cX8_findHint 141 = .ok (.ireturn, 1) := by decide +kernel
theorem dX8_hint_0 : decode cX8_hint 0 = .ok (.aload_n 0, 1) := by decide +kernel
theorem dX8_hint_1 : decode cX8_hint 1 = .ok (.iconst 0, 1) := by decide +kernel
theorem dX8_hint_2 : decode cX8_hint 2 = .ok (.putfield 106, 3) := by decide +kernel
theorem dX8_hint_5 : decode cX8_hint 5 = .ok (.aload_n 0, 1) := by decide +kernel
theorem dX8_hint_6 : decode cX8_hint 6 = .ok (.iload_n 1, 1) := by decide +kernel
theorem dX8_hint_7 : decode cX8_hint 7 = .ok (.invokevirtual 171, 3) := by decide +kernel
theorem dX8_hint_10 : decode cX8_hint 10 = .ok (.ifCond .eq 12, 3) := by decide +kernel
theorem dX8_hint_13 : decode cX8_hint 13 = .ok (.iload_n 2, 1) := by decide +kernel
theorem dX8_hint_14 : decode cX8_hint 14 = .ok (.iconst 0, 1) := by decide +kernel
theorem dX8_hint_15 : decode cX8_hint 15 = .ok (.iconst 3, 1) := by decide +kernel
theorem dX8_hint_16 : decode cX8_hint 16 = .ok (.invokestatic 112, 3) := by decide +kernel
theorem dX8_hint_19 : decode cX8_hint 19 = .ok (.ifCond .ne 9, 3) := by decide +kernel
theorem dX8_hint_22 : decode cX8_hint 22 = .ok (.aload_n 0, 1) := by decide +kernel
theorem dX8_hint_23 : decode cX8_hint 23 = .ok (.iconst 1, 1) := by decide +kernel
theorem dX8_hint_24 : decode cX8_hint 24 = .ok (.invokevirtual 119, 3) := by decide +kernel
theorem dX8_hint_27 : decode cX8_hint 27 = .ok (.ireturn, 1) := by decide +kernel
theorem dX8_hint_28 : decode cX8_hint 28 = .ok (.aload_n 0, 1) := by decide +kernel
theorem dX8_hint_29 : decode cX8_hint 29 = .ok (.iload_n 1, 1) := by decide +kernel
theorem dX8_hint_30 : decode cX8_hint 30 = .ok (.invokevirtual 280, 3) := by decide +kernel
theorem dX8_hint_33 : decode cX8_hint 33 = .ok (.ifCond .eq 12, 3) := by decide +kernel
theorem dX8_hint_36 : decode cX8_hint 36 = .ok (.aload_n 0, 1) := by decide +kernel
theorem dX8_hint_37 : decode cX8_hint 37 = .ok (.getfield 103, 3) := by decide +kernel
theorem dX8_hint_40 : decode cX8_hint 40 = .ok (.iload_n 2, 1) := by decide +kernel
theorem dX8_hint_41 : decode cX8_hint 41 = .ok (.iaload, 1) := by decide +kernel
theorem dX8_hint_42 : decode cX8_hint 42 = .ok (.goto 4, 3) := by decide +kernel
theorem dX8_hint_45 : decode cX8_hint 45 = .ok (.iconst (-1), 1) := by decide +kernel
theorem dX8_hint_46 : decode cX8_hint 46 = .ok (.ireturn, 1) := by decide +kernel
theorem dX8_end_0 : decode cX8_end 0 = .ok (.aload_n 0, 1) := by decide +kernel
theorem dX8_end_1 : decode cX8_end 1 = .ok (.iconst 0, 1) := by decide +kernel
theorem dX8_end_2 : decode cX8_end 2 = .ok (.putfield 106, 3) := by decide +kernel
theorem dX8_end_5 : decode cX8_end 5 = .ok (.aload_n 0, 1) := by decide +kernel
theorem dX8_end_6 : decode cX8_end 6 = .ok (.getfield 199, 3) := by decide +kernel
theorem dX8_end_9 : decode cX8_end 9 = .ok (.ifCond .eq 35, 3) := by decide +kernel
theorem dX8_end_12 : decode cX8_end 12 = .ok (.aload_n 0, 1) := by decide +kernel
theorem dX8_end_13 : decode cX8_end 13 = .ok (.getfield 61, 3) := by decide +kernel
theorem dX8_end_16 : decode cX8_end 16 = .ok (.iconst (-1), 1) := by decide +kernel
theorem dX8_end_17 : decode cX8_end 17 = .ok (.if_icmp .ne 27, 3) := by decide +kernel
theorem dX8_end_20 : decode cX8_end 20 = .ok (.aload_n 0, 1) := by decide +kernel
theorem dX8_end_21 : decode cX8_end 21 = .ok (.getfield 49, 3) := by decide +kernel
theorem dX8_end_24 : decode cX8_end 24 = .ok (.aload_n 0, 1) := by decide +kernel
theorem dX8_end_25 : decode cX8_end 25 = .ok (.getfield 199, 3) := by decide +kernel
theorem dX8_end_28 : decode cX8_end 28 = .ok (.iconst 1, 1) := by decide +kernel
theorem dX8_end_29 : decode cX8_end 29 = .ok (.isub, 1) := by decide +kernel
theorem dX8_end_30 : decode cX8_end 30 = .ok (.iaload, 1) := by decide +kernel
theorem dX8_end_31 : decode cX8_end 31 = .ok (.iconst (-1), 1) := by decide +kernel
theorem dX8_end_32 : decode cX8_end 32 = .ok (.if_icmp .ne 12, 3) := by decide +kernel
theorem dX8_end_35 : decode cX8_end 35 = .ok (.aload_n 0, 1) := by decide +kernel
theorem dX8_end_36 : decode cX8_end 36 = .ok (.getfield 227, 3) := by decide +kernel
theorem dX8_end_39 : decode cX8_end 39 = .ok (.bipush 16, 2) := by decide +kernel
theorem dX8_end_41 : decode cX8_end 41 = .ok (.if_icmp .ne 9, 3) := by decide +kernel
theorem dX8_end_44 : decode cX8_end 44 = .ok (.aload_n 0, 1) := by decide +kernel
theorem dX8_end_45 : decode cX8_end 45 = .ok (.iconst 1, 1) := by decide +kernel
theorem dX8_end_46 : decode cX8_end 46 = .ok (.invokevirtual 119, 3) := by decide +kernel
theorem dX8_end_49 : decode cX8_end 49 = .ok (.ireturn, 1) := by decide +kernel
theorem dX8_end_50 : decode cX8_end 50 = .ok (.aload_n 0, 1) := by decide +kernel
theorem dX8_end_51 : decode cX8_end 51 = .ok (.getfield 227, 3) := by decide +kernel
theorem dX8_end_54 : decode cX8_end 54 = .ok (.istore_n 1, 1) := by decide +kernel
theorem dX8_end_55 : decode cX8_end 55 = .ok (.aload_n 0, 1) := by decide +kernel
theorem dX8_end_56 : decode cX8_end 56 = .ok (.getfield 67, 3) := by decide +kernel
theorem dX8_end_59 : decode cX8_end 59 = .ok (.iload_n 1, 1) := by decide +kernel
theorem dX8_end_60 : decode cX8_end 60 = .ok (.aload_n 0, 1) := by decide +kernel
theorem dX8_end_61 : decode cX8_end 61 = .ok (.getfield 40, 3) := by decide +kernel
theorem dX8_end_64 : decode cX8_end 64 = .ok (.aload_n 0, 1) := by decide +kernel
theorem dX8_end_65 : decode cX8_end 65 = .ok (.getfield 199, 3) := by decide +kernel
theorem dX8_end_68 : decode cX8_end 68 = .ok (.iconst 1, 1) := by decide +kernel
theorem dX8_end_69 : decode cX8_end 69 = .ok (.isub, 1) := by decide +kernel
theorem dX8_end_70 : decode cX8_end 70 = .ok (.iaload, 1) := by decide +kernel
theorem dX8_end_71 : decode cX8_end 71 = .ok (.iastore, 1) := by decide +kernel
theorem dX8_end_72 : decode cX8_end 72 = .ok (.aload_n 0, 1) := by decide +kernel
theorem dX8_end_73 : decode cX8_end 73 = .ok (.getfield 70, 3) := by decide +kernel
theorem dX8_end_76 : decode cX8_end 76 = .ok (.iload_n 1, 1) := by decide +kernel
theorem dX8_end_77 : decode cX8_end 77 = .ok (.aload_n 0, 1) := by decide +kernel
theorem dX8_end_78 : decode cX8_end 78 = .ok (.invokevirtual 211, 3) := by decide +kernel
theorem dX8_end_81 : decode cX8_end 81 = .ok (.iastore, 1) := by decide +kernel
theorem dX8_end_82 : decode cX8_end 82 = .ok (.iconst 0, 1) := by decide +kernel
theorem dX8_end_83 : decode cX8_end 83 = .ok (.istore_n 2, 1) := by decide +kernel
theorem dX8_end_84 : decode cX8_end 84 = .ok (.iload_n 2, 1) := by decide +kernel
theorem dX8_end_85 : decode cX8_end 85 = .ok (.iconst 2, 1) := by decide +kernel
theorem dX8_end_86 : decode cX8_end 86 = .ok (.if_icmp .ge 39, 3) := by decide +kernel
theorem dX8_end_89 : decode cX8_end 89 = .ok (.aload_n 0, 1) := by decide +kernel
theorem dX8_end_90 : decode cX8_end 90 = .ok (.getfield 73, 3) := by decide +kernel
theorem dX8_end_93 : decode cX8_end 93 = .ok (.iconst 2, 1) := by decide +kernel
theorem dX8_end_94 : decode cX8_end 94 = .ok (.iload_n 1, 1) := by decide +kernel
theorem dX8_end_95 : decode cX8_end 95 = .ok (.imul, 1) := by decide +kernel
theorem dX8_end_96 : decode cX8_end 96 = .ok (.iload_n 2, 1) := by decide +kernel
theorem dX8_end_97 : decode cX8_end 97 = .ok (.iadd, 1) := by decide +kernel
theorem dX8_end_98 : decode cX8_end 98 = .ok (.iload_n 2, 1) := by decide +kernel
theorem dX8_end_99 : decode cX8_end 99 = .ok (.aload_n 0, 1) := by decide +kernel
theorem dX8_end_100 : decode cX8_end 100 = .ok (.getfield 70, 3) := by decide +kernel
theorem dX8_end_103 : decode cX8_end 103 = .ok (.iload_n 1, 1) := by decide +kernel
theorem dX8_end_104 : decode cX8_end 104 = .ok (.iaload, 1) := by decide +kernel
theorem dX8_end_105 : decode cX8_end 105 = .ok (.if_icmp .ge 12, 3) := by decide +kernel
theorem dX8_end_108 : decode cX8_end 108 = .ok (.aload_n 0, 1) := by decide +kernel
theorem dX8_end_109 : decode cX8_end 109 = .ok (.getfield 40, 3) := by decide +kernel
theorem dX8_end_112 : decode cX8_end 112 = .ok (.iload_n 2, 1) := by decide +kernel
theorem dX8_end_113 : decode cX8_end 113 = .ok (.iaload, 1) := by decide +kernel
theorem dX8_end_114 : decode cX8_end 114 = .ok (.goto 4, 3) := by decide +kernel
theorem dX8_end_117 : decode cX8_end 117 = .ok (.iconst (-1), 1) := by decide +kernel
theorem dX8_end_118 : decode cX8_end 118 = .ok (.iastore, 1) := by decide +kernel
theorem dX8_end_119 : decode cX8_end 119 = .ok (.iinc 2 1, 3) := by decide +kernel
theorem dX8_end_122 : decode cX8_end 122 = .ok (.goto (-38), 3) := by decide +kernel
theorem dX8_end_125 : decode cX8_end 125 = .ok (.aload_n 0, 1) := by decide +kernel
theorem dX8_end_126 : decode cX8_end 126 = .ok (.getfield 76, 3) := by decide +kernel
theorem dX8_end_129 : decode cX8_end 129 = .ok (.iload_n 1, 1) := by decide +kernel
theorem dX8_end_130 : decode cX8_end 130 = .ok (.aload_n 0, 1) := by decide +kernel
theorem dX8_end_131 : decode cX8_end 131 = .ok (.getfield 199, 3) := by decide +kernel
theorem dX8_end_134 : decode cX8_end 134 = .ok (.iastore, 1) := by decide +kernel
theorem dX8_end_135 : decode cX8_end 135 = .ok (.aload_n 0, 1) := by decide +kernel
theorem dX8_end_136 : decode cX8_end 136 = .ok (.getfield 79, 3) := by decide +kernel
theorem dX8_end_139 : decode cX8_end 139 = .ok (.iload_n 1, 1) := by decide +kernel
theorem dX8_end_140 : decode cX8_end 140 = .ok (.aload_n 0, 1) := by decide +kernel
theorem dX8_end_141 : decode cX8_end 141 = .ok (.invokevirtual 265, 3) := by decide +kernel
theorem dX8_end_144 : decode cX8_end 144 = .ok (.iastore, 1) := by decide +kernel
theorem dX8_end_145 : decode cX8_end 145 = .ok (.aload_n 0, 1) := by decide +kernel
theorem dX8_end_146 : decode cX8_end 146 = .ok (.getfield 82, 3) := by decide +kernel
theorem dX8_end_149 : decode cX8_end 149 = .ok (.iload_n 1, 1) := by decide +kernel
theorem dX8_end_150 : decode cX8_end 150 = .ok (.iconst 0, 1) := by decide +kernel
theorem dX8_end_151 : decode cX8_end 151 = .ok (.iastore, 1) := by decide +kernel
theorem dX8_end_152 : decode cX8_end 152 = .ok (.aload_n 0, 1) := by decide +kernel
theorem dX8_end_153 : decode cX8_end 153 = .ok (.dup, 1) := by decide +kernel
theorem dX8_end_154 : decode cX8_end 154 = .ok (.getfield 227, 3) := by decide +kernel
theorem dX8_end_157 : decode cX8_end 157 = .ok (.iconst 1, 1) := by decide +kernel
theorem dX8_end_158 : decode cX8_end 158 = .ok (.iadd, 1) := by decide +kernel
theorem dX8_end_159 : decode cX8_end 159 = .ok (.putfield 227, 3) := by decide +kernel
theorem dX8_end_162 : decode cX8_end 162 = .ok (.aload_n 0, 1) := by decide +kernel
theorem dX8_end_163 : decode cX8_end 163 = .ok (.invokevirtual 208, 3) := by decide +kernel
theorem dX8_end_166 : decode cX8_end 166 = .ok (.pop, 1) := by decide +kernel
theorem dX8_end_167 : decode cX8_end 167 = .ok (.iload_n 1, 1) := by decide +kernel
theorem dX8_end_168 : decode cX8_end 168 = .ok (.ireturn, 1) := by decide +kernel
theorem dX8_theoremTold_0 : decode cX8_theoremTold 0 = .ok (.bipush 7, 2) := by decide +kernel
theorem dX8_theoremTold_2 : decode cX8_theoremTold 2 = .ok (.newarray .int, 2) := by decide +kernel
theorem dX8_theoremTold_4 : decode cX8_theoremTold 4 = .ok (.dup, 1) := by decide +kernel
theorem dX8_theoremTold_5 : decode cX8_theoremTold 5 = .ok (.iconst 0, 1) := by decide +kernel
theorem dX8_theoremTold_6 : decode cX8_theoremTold 6 = .ok (.aload_n 0, 1) := by decide +kernel
theorem dX8_theoremTold_7 : decode cX8_theoremTold 7 = .ok (.getfield 67, 3) := by decide +kernel
theorem dX8_theoremTold_10 : decode cX8_theoremTold 10 = .ok (.iload_n 1, 1) := by decide +kernel
theorem dX8_theoremTold_11 : decode cX8_theoremTold 11 = .ok (.iaload, 1) := by decide +kernel
theorem dX8_theoremTold_12 : decode cX8_theoremTold 12 = .ok (.iastore, 1) := by decide +kernel
theorem dX8_theoremTold_13 : decode cX8_theoremTold 13 = .ok (.dup, 1) := by decide +kernel
theorem dX8_theoremTold_14 : decode cX8_theoremTold 14 = .ok (.iconst 1, 1) := by decide +kernel
theorem dX8_theoremTold_15 : decode cX8_theoremTold 15 = .ok (.aload_n 0, 1) := by decide +kernel
theorem dX8_theoremTold_16 : decode cX8_theoremTold 16 = .ok (.getfield 70, 3) := by decide +kernel
theorem dX8_theoremTold_19 : decode cX8_theoremTold 19 = .ok (.iload_n 1, 1) := by decide +kernel
theorem dX8_theoremTold_20 : decode cX8_theoremTold 20 = .ok (.iaload, 1) := by decide +kernel
theorem dX8_theoremTold_21 : decode cX8_theoremTold 21 = .ok (.iastore, 1) := by decide +kernel
theorem dX8_theoremTold_22 : decode cX8_theoremTold 22 = .ok (.dup, 1) := by decide +kernel
theorem dX8_theoremTold_23 : decode cX8_theoremTold 23 = .ok (.iconst 2, 1) := by decide +kernel
theorem dX8_theoremTold_24 : decode cX8_theoremTold 24 = .ok (.aload_n 0, 1) := by decide +kernel
theorem dX8_theoremTold_25 : decode cX8_theoremTold 25 = .ok (.getfield 73, 3) := by decide +kernel
theorem dX8_theoremTold_28 : decode cX8_theoremTold 28 = .ok (.iconst 2, 1) := by decide +kernel
theorem dX8_theoremTold_29 : decode cX8_theoremTold 29 = .ok (.iload_n 1, 1) := by decide +kernel
theorem dX8_theoremTold_30 : decode cX8_theoremTold 30 = .ok (.imul, 1) := by decide +kernel
theorem dX8_theoremTold_31 : decode cX8_theoremTold 31 = .ok (.iaload, 1) := by decide +kernel
theorem dX8_theoremTold_32 : decode cX8_theoremTold 32 = .ok (.iastore, 1) := by decide +kernel
theorem dX8_theoremTold_33 : decode cX8_theoremTold 33 = .ok (.dup, 1) := by decide +kernel
theorem dX8_theoremTold_34 : decode cX8_theoremTold 34 = .ok (.iconst 3, 1) := by decide +kernel
theorem dX8_theoremTold_35 : decode cX8_theoremTold 35 = .ok (.aload_n 0, 1) := by decide +kernel
theorem dX8_theoremTold_36 : decode cX8_theoremTold 36 = .ok (.getfield 73, 3) := by decide +kernel
theorem dX8_theoremTold_39 : decode cX8_theoremTold 39 = .ok (.iconst 2, 1) := by decide +kernel
theorem dX8_theoremTold_40 : decode cX8_theoremTold 40 = .ok (.iload_n 1, 1) := by decide +kernel
theorem dX8_theoremTold_41 : decode cX8_theoremTold 41 = .ok (.imul, 1) := by decide +kernel
theorem dX8_theoremTold_42 : decode cX8_theoremTold 42 = .ok (.iconst 1, 1) := by decide +kernel
theorem dX8_theoremTold_43 : decode cX8_theoremTold 43 = .ok (.iadd, 1) := by decide +kernel
theorem dX8_theoremTold_44 : decode cX8_theoremTold 44 = .ok (.iaload, 1) := by decide +kernel
theorem dX8_theoremTold_45 : decode cX8_theoremTold 45 = .ok (.iastore, 1) := by decide +kernel
theorem dX8_theoremTold_46 : decode cX8_theoremTold 46 = .ok (.dup, 1) := by decide +kernel
theorem dX8_theoremTold_47 : decode cX8_theoremTold 47 = .ok (.iconst 4, 1) := by decide +kernel
theorem dX8_theoremTold_48 : decode cX8_theoremTold 48 = .ok (.aload_n 0, 1) := by decide +kernel
theorem dX8_theoremTold_49 : decode cX8_theoremTold 49 = .ok (.getfield 76, 3) := by decide +kernel
theorem dX8_theoremTold_52 : decode cX8_theoremTold 52 = .ok (.iload_n 1, 1) := by decide +kernel
theorem dX8_theoremTold_53 : decode cX8_theoremTold 53 = .ok (.iaload, 1) := by decide +kernel
theorem dX8_theoremTold_54 : decode cX8_theoremTold 54 = .ok (.iastore, 1) := by decide +kernel
theorem dX8_theoremTold_55 : decode cX8_theoremTold 55 = .ok (.dup, 1) := by decide +kernel
theorem dX8_theoremTold_56 : decode cX8_theoremTold 56 = .ok (.iconst 5, 1) := by decide +kernel
theorem dX8_theoremTold_57 : decode cX8_theoremTold 57 = .ok (.aload_n 0, 1) := by decide +kernel
theorem dX8_theoremTold_58 : decode cX8_theoremTold 58 = .ok (.getfield 79, 3) := by decide +kernel
theorem dX8_theoremTold_61 : decode cX8_theoremTold 61 = .ok (.iload_n 1, 1) := by decide +kernel
theorem dX8_theoremTold_62 : decode cX8_theoremTold 62 = .ok (.iaload, 1) := by decide +kernel
theorem dX8_theoremTold_63 : decode cX8_theoremTold 63 = .ok (.iastore, 1) := by decide +kernel
theorem dX8_theoremTold_64 : decode cX8_theoremTold 64 = .ok (.dup, 1) := by decide +kernel
theorem dX8_theoremTold_65 : decode cX8_theoremTold 65 = .ok (.bipush 6, 2) := by decide +kernel
theorem dX8_theoremTold_67 : decode cX8_theoremTold 67 = .ok (.aload_n 0, 1) := by decide +kernel
theorem dX8_theoremTold_68 : decode cX8_theoremTold 68 = .ok (.getfield 82, 3) := by decide +kernel
theorem dX8_theoremTold_71 : decode cX8_theoremTold 71 = .ok (.iload_n 1, 1) := by decide +kernel
theorem dX8_theoremTold_72 : decode cX8_theoremTold 72 = .ok (.iaload, 1) := by decide +kernel
theorem dX8_theoremTold_73 : decode cX8_theoremTold 73 = .ok (.iastore, 1) := by decide +kernel
theorem dX8_theoremTold_74 : decode cX8_theoremTold 74 = .ok (.astore_n 3, 1) := by decide +kernel
theorem dX8_theoremTold_75 : decode cX8_theoremTold 75 = .ok (.aload_n 3, 1) := by decide +kernel
theorem dX8_theoremTold_76 : decode cX8_theoremTold 76 = .ok (.iload_n 2, 1) := by decide +kernel
theorem dX8_theoremTold_77 : decode cX8_theoremTold 77 = .ok (.iaload, 1) := by decide +kernel
theorem dX8_theoremTold_78 : decode cX8_theoremTold 78 = .ok (.ireturn, 1) := by decide +kernel
theorem dX8_isTheorem_0 : decode cX8_isTheorem 0 = .ok (.iload_n 1, 1) := by decide +kernel
theorem dX8_isTheorem_1 : decode cX8_isTheorem 1 = .ok (.iconst 0, 1) := by decide +kernel
theorem dX8_isTheorem_2 : decode cX8_isTheorem 2 = .ok (.aload_n 0, 1) := by decide +kernel
theorem dX8_isTheorem_3 : decode cX8_isTheorem 3 = .ok (.getfield 227, 3) := by decide +kernel
theorem dX8_isTheorem_6 : decode cX8_isTheorem 6 = .ok (.iconst 1, 1) := by decide +kernel
theorem dX8_isTheorem_7 : decode cX8_isTheorem 7 = .ok (.isub, 1) := by decide +kernel
theorem dX8_isTheorem_8 : decode cX8_isTheorem 8 = .ok (.invokestatic 112, 3) := by decide +kernel
theorem dX8_isTheorem_11 : decode cX8_isTheorem 11 = .ok (.ireturn, 1) := by decide +kernel
theorem dX8_theorem_0 : decode cX8_theorem 0 = .ok (.aload_n 0, 1) := by decide +kernel
theorem dX8_theorem_1 : decode cX8_theorem 1 = .ok (.iconst 0, 1) := by decide +kernel
theorem dX8_theorem_2 : decode cX8_theorem 2 = .ok (.putfield 106, 3) := by decide +kernel
theorem dX8_theorem_5 : decode cX8_theorem 5 = .ok (.aload_n 0, 1) := by decide +kernel
theorem dX8_theorem_6 : decode cX8_theorem 6 = .ok (.iload_n 1, 1) := by decide +kernel
theorem dX8_theorem_7 : decode cX8_theorem 7 = .ok (.invokevirtual 283, 3) := by decide +kernel
theorem dX8_theorem_10 : decode cX8_theorem 10 = .ok (.ifCond .eq 22, 3) := by decide +kernel
theorem dX8_theorem_13 : decode cX8_theorem 13 = .ok (.iload_n 2, 1) := by decide +kernel
theorem dX8_theorem_14 : decode cX8_theorem 14 = .ok (.iconst 0, 1) := by decide +kernel
theorem dX8_theorem_15 : decode cX8_theorem 15 = .ok (.bipush 6, 2) := by decide +kernel
theorem dX8_theorem_17 : decode cX8_theorem 17 = .ok (.invokestatic 112, 3) := by decide +kernel
theorem dX8_theorem_20 : decode cX8_theorem 20 = .ok (.ifCond .eq 12, 3) := by decide +kernel
theorem dX8_theorem_23 : decode cX8_theorem 23 = .ok (.aload_n 0, 1) := by decide +kernel
theorem dX8_theorem_24 : decode cX8_theorem 24 = .ok (.iload_n 1, 1) := by decide +kernel
theorem dX8_theorem_25 : decode cX8_theorem 25 = .ok (.iload_n 2, 1) := by decide +kernel
theorem dX8_theorem_26 : decode cX8_theorem 26 = .ok (.invokevirtual 286, 3) := by decide +kernel
theorem dX8_theorem_29 : decode cX8_theorem 29 = .ok (.goto 8, 3) := by decide +kernel
theorem dX8_theorem_32 : decode cX8_theorem 32 = .ok (.aload_n 0, 1) := by decide +kernel
theorem dX8_theorem_33 : decode cX8_theorem 33 = .ok (.iconst 1, 1) := by decide +kernel
theorem dX8_theorem_34 : decode cX8_theorem 34 = .ok (.invokevirtual 119, 3) := by decide +kernel
theorem dX8_theorem_37 : decode cX8_theorem 37 = .ok (.ireturn, 1) := by decide +kernel
theorem dX8_instance_0 : decode cX8_instance 0 = .ok (.aload_n 0, 1) := by decide +kernel
theorem dX8_instance_1 : decode cX8_instance 1 = .ok (.iconst 0, 1) := by decide +kernel
theorem dX8_instance_2 : decode cX8_instance 2 = .ok (.putfield 106, 3) := by decide +kernel
theorem dX8_instance_5 : decode cX8_instance 5 = .ok (.aload_n 0, 1) := by decide +kernel
theorem dX8_instance_6 : decode cX8_instance 6 = .ok (.iload_n 1, 1) := by decide +kernel
theorem dX8_instance_7 : decode cX8_instance 7 = .ok (.invokevirtual 283, 3) := by decide +kernel
theorem dX8_instance_10 : decode cX8_instance 10 = .ok (.ifCond .eq 21, 3) := by decide +kernel
theorem dX8_instance_13 : decode cX8_instance 13 = .ok (.aload_n 0, 1) := by decide +kernel
theorem dX8_instance_14 : decode cX8_instance 14 = .ok (.iload_n 2, 1) := by decide +kernel
theorem dX8_instance_15 : decode cX8_instance 15 = .ok (.invokevirtual 171, 3) := by decide +kernel
theorem dX8_instance_18 : decode cX8_instance 18 = .ok (.ifCond .eq 13, 3) := by decide +kernel
theorem dX8_instance_21 : decode cX8_instance 21 = .ok (.iload_n 3, 1) := by decide +kernel
theorem dX8_instance_22 : decode cX8_instance 22 = .ok (.iconst 0, 1) := by decide +kernel
theorem dX8_instance_23 : decode cX8_instance 23 = .ok (.bipush 7, 2) := by decide +kernel
theorem dX8_instance_25 : decode cX8_instance 25 = .ok (.invokestatic 112, 3) := by decide +kernel
theorem dX8_instance_28 : decode cX8_instance 28 = .ok (.ifCond .ne 9, 3) := by decide +kernel
theorem dX8_instance_31 : decode cX8_instance 31 = .ok (.aload_n 0, 1) := by decide +kernel
theorem dX8_instance_32 : decode cX8_instance 32 = .ok (.iconst 1, 1) := by decide +kernel
theorem dX8_instance_33 : decode cX8_instance 33 = .ok (.invokevirtual 119, 3) := by decide +kernel
theorem dX8_instance_36 : decode cX8_instance 36 = .ok (.ireturn, 1) := by decide +kernel
theorem dX8_instance_37 : decode cX8_instance 37 = .ok (.aload_n 0, 1) := by decide +kernel
theorem dX8_instance_38 : decode cX8_instance 38 = .ok (.invokevirtual 256, 3) := by decide +kernel
theorem dX8_instance_41 : decode cX8_instance 41 = .ok (.aload_n 0, 1) := by decide +kernel
theorem dX8_instance_42 : decode cX8_instance 42 = .ok (.aload_n 0, 1) := by decide +kernel
theorem dX8_instance_43 : decode cX8_instance 43 = .ok (.getfield 67, 3) := by decide +kernel
theorem dX8_instance_46 : decode cX8_instance 46 = .ok (.iload_n 1, 1) := by decide +kernel
theorem dX8_instance_47 : decode cX8_instance 47 = .ok (.iaload, 1) := by decide +kernel
theorem dX8_instance_48 : decode cX8_instance 48 = .ok (.iload_n 2, 1) := by decide +kernel
theorem dX8_instance_49 : decode cX8_instance 49 = .ok (.invokevirtual 236, 3) := by decide +kernel
theorem dX8_instance_52 : decode cX8_instance 52 = .ok (.ifCond .eq 21, 3) := by decide +kernel
theorem dX8_instance_55 : decode cX8_instance 55 = .ok (.aload_n 0, 1) := by decide +kernel
theorem dX8_instance_56 : decode cX8_instance 56 = .ok (.getfield 29, 3) := by decide +kernel
theorem dX8_instance_59 : decode cX8_instance 59 = .ok (.aload_n 0, 1) := by decide +kernel
theorem dX8_instance_60 : decode cX8_instance 60 = .ok (.getfield 67, 3) := by decide +kernel
theorem dX8_instance_63 : decode cX8_instance 63 = .ok (.iload_n 1, 1) := by decide +kernel
theorem dX8_instance_64 : decode cX8_instance 64 = .ok (.iaload, 1) := by decide +kernel
theorem dX8_instance_65 : decode cX8_instance 65 = .ok (.iaload, 1) := by decide +kernel
theorem dX8_instance_66 : decode cX8_instance 66 = .ok (.iload_n 3, 1) := by decide +kernel
theorem dX8_instance_67 : decode cX8_instance 67 = .ok (.ishr, 1) := by decide +kernel
theorem dX8_instance_68 : decode cX8_instance 68 = .ok (.iconst 1, 1) := by decide +kernel
theorem dX8_instance_69 : decode cX8_instance 69 = .ok (.iand, 1) := by decide +kernel
theorem dX8_instance_70 : decode cX8_instance 70 = .ok (.ifCond .ne 5, 3) := by decide +kernel
theorem dX8_instance_73 : decode cX8_instance 73 = .ok (.iconst (-1), 1) := by decide +kernel
theorem dX8_instance_74 : decode cX8_instance 74 = .ok (.ireturn, 1) := by decide +kernel
theorem dX8_instance_75 : decode cX8_instance 75 = .ok (.aload_n 0, 1) := by decide +kernel
theorem dX8_instance_76 : decode cX8_instance 76 = .ok (.getfield 97, 3) := by decide +kernel
theorem dX8_instance_79 : decode cX8_instance 79 = .ok (.aload_n 0, 1) := by decide +kernel
theorem dX8_instance_80 : decode cX8_instance 80 = .ok (.iconst 0, 1) := by decide +kernel
theorem dX8_instance_81 : decode cX8_instance 81 = .ok (.iload_n 3, 1) := by decide +kernel
theorem dX8_instance_82 : decode cX8_instance 82 = .ok (.iconst (-1), 1) := by decide +kernel
theorem dX8_instance_83 : decode cX8_instance 83 = .ok (.invokevirtual 123, 3) := by decide +kernel
theorem dX8_instance_86 : decode cX8_instance 86 = .ok (.iaload, 1) := by decide +kernel
theorem dX8_instance_87 : decode cX8_instance 87 = .ok (.ireturn, 1) := by decide +kernel
theorem dX8_thrift_0 : decode cX8_thrift 0 = .ok (.aload_n 0, 1) := by decide +kernel
theorem dX8_thrift_1 : decode cX8_thrift 1 = .ok (.iconst 0, 1) := by decide +kernel
theorem dX8_thrift_2 : decode cX8_thrift 2 = .ok (.putfield 106, 3) := by decide +kernel
theorem dX8_thrift_5 : decode cX8_thrift 5 = .ok (.iconst 0, 1) := by decide +kernel
theorem dX8_thrift_6 : decode cX8_thrift 6 = .ok (.istore_n 1, 1) := by decide +kernel
theorem dX8_thrift_7 : decode cX8_thrift 7 = .ok (.iconst 0, 1) := by decide +kernel
theorem dX8_thrift_8 : decode cX8_thrift 8 = .ok (.istore_n 2, 1) := by decide +kernel
theorem dX8_thrift_9 : decode cX8_thrift 9 = .ok (.iconst 0, 1) := by decide +kernel
theorem dX8_thrift_10 : decode cX8_thrift 10 = .ok (.istore_n 3, 1) := by decide +kernel
theorem dX8_thrift_11 : decode cX8_thrift 11 = .ok (.iload_n 3, 1) := by decide +kernel
theorem dX8_thrift_12 : decode cX8_thrift 12 = .ok (.aload_n 0, 1) := by decide +kernel
theorem dX8_thrift_13 : decode cX8_thrift 13 = .ok (.getfield 227, 3) := by decide +kernel
theorem dX8_thrift_16 : decode cX8_thrift 16 = .ok (.if_icmp .ge 27, 3) := by decide +kernel
theorem dX8_thrift_19 : decode cX8_thrift 19 = .ok (.iload_n 1, 1) := by decide +kernel
theorem dX8_thrift_20 : decode cX8_thrift 20 = .ok (.aload_n 0, 1) := by decide +kernel
theorem dX8_thrift_21 : decode cX8_thrift 21 = .ok (.getfield 76, 3) := by decide +kernel
theorem dX8_thrift_24 : decode cX8_thrift 24 = .ok (.iload_n 3, 1) := by decide +kernel
theorem dX8_thrift_25 : decode cX8_thrift 25 = .ok (.iaload, 1) := by decide +kernel
theorem dX8_thrift_26 : decode cX8_thrift 26 = .ok (.iadd, 1) := by decide +kernel
theorem dX8_thrift_27 : decode cX8_thrift 27 = .ok (.istore_n 1, 1) := by decide +kernel
theorem dX8_thrift_28 : decode cX8_thrift 28 = .ok (.iload_n 2, 1) := by decide +kernel
theorem dX8_thrift_29 : decode cX8_thrift 29 = .ok (.aload_n 0, 1) := by decide +kernel
theorem dX8_thrift_30 : decode cX8_thrift 30 = .ok (.getfield 79, 3) := by decide +kernel
theorem dX8_thrift_33 : decode cX8_thrift 33 = .ok (.iload_n 3, 1) := by decide +kernel
theorem dX8_thrift_34 : decode cX8_thrift 34 = .ok (.iaload, 1) := by decide +kernel
theorem dX8_thrift_35 : decode cX8_thrift 35 = .ok (.iadd, 1) := by decide +kernel
theorem dX8_thrift_36 : decode cX8_thrift 36 = .ok (.istore_n 2, 1) := by decide +kernel
theorem dX8_thrift_37 : decode cX8_thrift 37 = .ok (.iinc 3 1, 3) := by decide +kernel
theorem dX8_thrift_40 : decode cX8_thrift 40 = .ok (.goto (-29), 3) := by decide +kernel
theorem dX8_thrift_43 : decode cX8_thrift 43 = .ok (.aload_n 0, 1) := by decide +kernel
theorem dX8_thrift_44 : decode cX8_thrift 44 = .ok (.getfield 227, 3) := by decide +kernel
theorem dX8_thrift_47 : decode cX8_thrift 47 = .ok (.ifCond .ne 7, 3) := by decide +kernel
theorem dX8_thrift_50 : decode cX8_thrift 50 = .ok (.dconst 1, 1) := by decide +kernel
theorem dX8_thrift_51 : decode cX8_thrift 51 = .ok (.goto 8, 3) := by decide +kernel
theorem dX8_thrift_54 : decode cX8_thrift 54 = .ok (.iload_n 2, 1) := by decide +kernel
theorem dX8_thrift_55 : decode cX8_thrift 55 = .ok (.i2d, 1) := by decide +kernel
theorem dX8_thrift_56 : decode cX8_thrift 56 = .ok (.iload_n 1, 1) := by decide +kernel
theorem dX8_thrift_57 : decode cX8_thrift 57 = .ok (.i2d, 1) := by decide +kernel
theorem dX8_thrift_58 : decode cX8_thrift 58 = .ok (.ddiv, 1) := by decide +kernel
theorem dX8_thrift_59 : decode cX8_thrift 59 = .ok (.dreturn, 1) := by decide +kernel
theorem dX8_digest_0 : decode cX8_digest 0 = .ok (.aload_n 0, 1) := by decide +kernel
theorem dX8_digest_1 : decode cX8_digest 1 = .ok (.iconst 0, 1) := by decide +kernel
theorem dX8_digest_2 : decode cX8_digest 2 = .ok (.putfield 106, 3) := by decide +kernel
theorem dX8_digest_5 : decode cX8_digest 5 = .ok (.ldc2_w 289, 3) := by decide +kernel
theorem dX8_digest_8 : decode cX8_digest 8 = .ok (.lstore_n 1, 1) := by decide +kernel
theorem dX8_digest_9 : decode cX8_digest 9 = .ok (.iconst 0, 1) := by decide +kernel
theorem dX8_digest_10 : decode cX8_digest 10 = .ok (.istore_n 3, 1) := by decide +kernel
theorem dX8_digest_11 : decode cX8_digest 11 = .ok (.iload_n 3, 1) := by decide +kernel
theorem dX8_digest_12 : decode cX8_digest 12 = .ok (.bipush 9, 2) := by decide +kernel
theorem dX8_digest_14 : decode cX8_digest 14 = .ok (.if_icmp .ge 22, 3) := by decide +kernel
theorem dX8_digest_17 : decode cX8_digest 17 = .ok (.lload_n 1, 1) := by decide +kernel
theorem dX8_digest_18 : decode cX8_digest 18 = .ok (.ldc2_w 291, 3) := by decide +kernel
theorem dX8_digest_21 : decode cX8_digest 21 = .ok (.lmul, 1) := by decide +kernel
theorem dX8_digest_22 : decode cX8_digest 22 = .ok (.aload_n 0, 1) := by decide +kernel
theorem dX8_digest_23 : decode cX8_digest 23 = .ok (.iload_n 3, 1) := by decide +kernel
theorem dX8_digest_24 : decode cX8_digest 24 = .ok (.invokevirtual 268, 3) := by decide +kernel
theorem dX8_digest_27 : decode cX8_digest 27 = .ok (.i2l, 1) := by decide +kernel
theorem dX8_digest_28 : decode cX8_digest 28 = .ok (.ladd, 1) := by decide +kernel
theorem dX8_digest_29 : decode cX8_digest 29 = .ok (.lstore_n 1, 1) := by decide +kernel
theorem dX8_digest_30 : decode cX8_digest 30 = .ok (.iinc 3 1, 3) := by decide +kernel
theorem dX8_digest_33 : decode cX8_digest 33 = .ok (.goto (-22), 3) := by decide +kernel
theorem dX8_digest_36 : decode cX8_digest 36 = .ok (.iconst 0, 1) := by decide +kernel
theorem dX8_digest_37 : decode cX8_digest 37 = .ok (.istore_n 3, 1) := by decide +kernel
theorem dX8_digest_38 : decode cX8_digest 38 = .ok (.iload_n 3, 1) := by decide +kernel
theorem dX8_digest_39 : decode cX8_digest 39 = .ok (.aload_n 0, 1) := by decide +kernel
theorem dX8_digest_40 : decode cX8_digest 40 = .ok (.getfield 109, 3) := by decide +kernel
theorem dX8_digest_43 : decode cX8_digest 43 = .ok (.if_icmp .ge 47, 3) := by decide +kernel
theorem dX8_digest_46 : decode cX8_digest 46 = .ok (.lload_n 1, 1) := by decide +kernel
theorem dX8_digest_47 : decode cX8_digest 47 = .ok (.ldc2_w 291, 3) := by decide +kernel
theorem dX8_digest_50 : decode cX8_digest 50 = .ok (.lmul, 1) := by decide +kernel
theorem dX8_digest_51 : decode cX8_digest 51 = .ok (.aload_n 0, 1) := by decide +kernel
theorem dX8_digest_52 : decode cX8_digest 52 = .ok (.getfield 20, 3) := by decide +kernel
theorem dX8_digest_55 : decode cX8_digest 55 = .ok (.iload_n 3, 1) := by decide +kernel
theorem dX8_digest_56 : decode cX8_digest 56 = .ok (.iaload, 1) := by decide +kernel
theorem dX8_digest_57 : decode cX8_digest 57 = .ok (.i2l, 1) := by decide +kernel
theorem dX8_digest_58 : decode cX8_digest 58 = .ok (.ladd, 1) := by decide +kernel
theorem dX8_digest_59 : decode cX8_digest 59 = .ok (.ldc2_w 291, 3) := by decide +kernel
theorem dX8_digest_62 : decode cX8_digest 62 = .ok (.lmul, 1) := by decide +kernel
theorem dX8_digest_63 : decode cX8_digest 63 = .ok (.aload_n 0, 1) := by decide +kernel
theorem dX8_digest_64 : decode cX8_digest 64 = .ok (.getfield 23, 3) := by decide +kernel
theorem dX8_digest_67 : decode cX8_digest 67 = .ok (.iload_n 3, 1) := by decide +kernel
theorem dX8_digest_68 : decode cX8_digest 68 = .ok (.iaload, 1) := by decide +kernel
theorem dX8_digest_69 : decode cX8_digest 69 = .ok (.i2l, 1) := by decide +kernel
theorem dX8_digest_70 : decode cX8_digest 70 = .ok (.ladd, 1) := by decide +kernel
theorem dX8_digest_71 : decode cX8_digest 71 = .ok (.ldc2_w 291, 3) := by decide +kernel
theorem dX8_digest_74 : decode cX8_digest 74 = .ok (.lmul, 1) := by decide +kernel
theorem dX8_digest_75 : decode cX8_digest 75 = .ok (.aload_n 0, 1) := by decide +kernel
theorem dX8_digest_76 : decode cX8_digest 76 = .ok (.getfield 26, 3) := by decide +kernel
theorem dX8_digest_79 : decode cX8_digest 79 = .ok (.iload_n 3, 1) := by decide +kernel
theorem dX8_digest_80 : decode cX8_digest 80 = .ok (.iaload, 1) := by decide +kernel
theorem dX8_digest_81 : decode cX8_digest 81 = .ok (.i2l, 1) := by decide +kernel
theorem dX8_digest_82 : decode cX8_digest 82 = .ok (.ladd, 1) := by decide +kernel
theorem dX8_digest_83 : decode cX8_digest 83 = .ok (.lstore_n 1, 1) := by decide +kernel
theorem dX8_digest_84 : decode cX8_digest 84 = .ok (.iinc 3 1, 3) := by decide +kernel
theorem dX8_digest_87 : decode cX8_digest 87 = .ok (.goto (-49), 3) := by decide +kernel
theorem dX8_digest_90 : decode cX8_digest 90 = .ok (.iconst 0, 1) := by decide +kernel
theorem dX8_digest_91 : decode cX8_digest 91 = .ok (.istore_n 3, 1) := by decide +kernel
theorem dX8_digest_92 : decode cX8_digest 92 = .ok (.iload_n 3, 1) := by decide +kernel
theorem dX8_digest_93 : decode cX8_digest 93 = .ok (.aload_n 0, 1) := by decide +kernel
theorem dX8_digest_94 : decode cX8_digest 94 = .ok (.getfield 199, 3) := by decide +kernel
theorem dX8_digest_97 : decode cX8_digest 97 = .ok (.if_icmp .ge 40, 3) := by decide +kernel
theorem dX8_digest_100 : decode cX8_digest 100 = .ok (.iconst 0, 1) := by decide +kernel
theorem dX8_digest_101 : decode cX8_digest 101 = .ok (.istore 4, 2) := by decide +kernel
theorem dX8_digest_103 : decode cX8_digest 103 = .ok (.iload 4, 2) := by decide +kernel
theorem dX8_digest_105 : decode cX8_digest 105 = .ok (.bipush 8, 2) := by decide +kernel
theorem dX8_digest_107 : decode cX8_digest 107 = .ok (.if_icmp .ge 24, 3) := by decide +kernel
theorem dX8_digest_110 : decode cX8_digest 110 = .ok (.lload_n 1, 1) := by decide +kernel
theorem dX8_digest_111 : decode cX8_digest 111 = .ok (.ldc2_w 291, 3) := by decide +kernel
theorem dX8_digest_114 : decode cX8_digest 114 = .ok (.lmul, 1) := by decide +kernel
theorem dX8_digest_115 : decode cX8_digest 115 = .ok (.aload_n 0, 1) := by decide +kernel
theorem dX8_digest_116 : decode cX8_digest 116 = .ok (.iload_n 3, 1) := by decide +kernel
theorem dX8_digest_117 : decode cX8_digest 117 = .ok (.iload 4, 2) := by decide +kernel
theorem dX8_digest_119 : decode cX8_digest 119 = .ok (.invokevirtual 271, 3) := by decide +kernel
theorem dX8_digest_122 : decode cX8_digest 122 = .ok (.i2l, 1) := by decide +kernel
theorem dX8_digest_123 : decode cX8_digest 123 = .ok (.ladd, 1) := by decide +kernel
theorem dX8_digest_124 : decode cX8_digest 124 = .ok (.lstore_n 1, 1) := by decide +kernel
theorem dX8_digest_125 : decode cX8_digest 125 = .ok (.iinc 4 1, 3) := by decide +kernel
theorem dX8_digest_128 : decode cX8_digest 128 = .ok (.goto (-25), 3) := by decide +kernel
theorem dX8_digest_131 : decode cX8_digest 131 = .ok (.iinc 3 1, 3) := by decide +kernel
theorem dX8_digest_134 : decode cX8_digest 134 = .ok (.goto (-42), 3) := by decide +kernel
theorem dX8_digest_137 : decode cX8_digest 137 = .ok (.iconst 0, 1) := by decide +kernel
theorem dX8_digest_138 : decode cX8_digest 138 = .ok (.istore_n 3, 1) := by decide +kernel
theorem dX8_digest_139 : decode cX8_digest 139 = .ok (.iload_n 3, 1) := by decide +kernel
theorem dX8_digest_140 : decode cX8_digest 140 = .ok (.aload_n 0, 1) := by decide +kernel
theorem dX8_digest_141 : decode cX8_digest 141 = .ok (.getfield 202, 3) := by decide +kernel
theorem dX8_digest_144 : decode cX8_digest 144 = .ok (.if_icmp .ge 39, 3) := by decide +kernel
theorem dX8_digest_147 : decode cX8_digest 147 = .ok (.iconst 0, 1) := by decide +kernel
theorem dX8_digest_148 : decode cX8_digest 148 = .ok (.istore 4, 2) := by decide +kernel
theorem dX8_digest_150 : decode cX8_digest 150 = .ok (.iload 4, 2) := by decide +kernel
theorem dX8_digest_152 : decode cX8_digest 152 = .ok (.iconst 4, 1) := by decide +kernel
theorem dX8_digest_153 : decode cX8_digest 153 = .ok (.if_icmp .ge 24, 3) := by decide +kernel
theorem dX8_digest_156 : decode cX8_digest 156 = .ok (.lload_n 1, 1) := by decide +kernel
theorem dX8_digest_157 : decode cX8_digest 157 = .ok (.ldc2_w 291, 3) := by decide +kernel
theorem dX8_digest_160 : decode cX8_digest 160 = .ok (.lmul, 1) := by decide +kernel
theorem dX8_digest_161 : decode cX8_digest 161 = .ok (.aload_n 0, 1) := by decide +kernel
theorem dX8_digest_162 : decode cX8_digest 162 = .ok (.iload_n 3, 1) := by decide +kernel
theorem dX8_digest_163 : decode cX8_digest 163 = .ok (.iload 4, 2) := by decide +kernel
theorem dX8_digest_165 : decode cX8_digest 165 = .ok (.invokevirtual 274, 3) := by decide +kernel
theorem dX8_digest_168 : decode cX8_digest 168 = .ok (.i2l, 1) := by decide +kernel
theorem dX8_digest_169 : decode cX8_digest 169 = .ok (.ladd, 1) := by decide +kernel
theorem dX8_digest_170 : decode cX8_digest 170 = .ok (.lstore_n 1, 1) := by decide +kernel
theorem dX8_digest_171 : decode cX8_digest 171 = .ok (.iinc 4 1, 3) := by decide +kernel
theorem dX8_digest_174 : decode cX8_digest 174 = .ok (.goto (-24), 3) := by decide +kernel
theorem dX8_digest_177 : decode cX8_digest 177 = .ok (.iinc 3 1, 3) := by decide +kernel
theorem dX8_digest_180 : decode cX8_digest 180 = .ok (.goto (-41), 3) := by decide +kernel
theorem dX8_digest_183 : decode cX8_digest 183 = .ok (.iconst 0, 1) := by decide +kernel
theorem dX8_digest_184 : decode cX8_digest 184 = .ok (.istore_n 3, 1) := by decide +kernel
theorem dX8_digest_185 : decode cX8_digest 185 = .ok (.iload_n 3, 1) := by decide +kernel
theorem dX8_digest_186 : decode cX8_digest 186 = .ok (.aload_n 0, 1) := by decide +kernel
theorem dX8_digest_187 : decode cX8_digest 187 = .ok (.getfield 227, 3) := by decide +kernel
theorem dX8_digest_190 : decode cX8_digest 190 = .ok (.if_icmp .ge 40, 3) := by decide +kernel
theorem dX8_digest_193 : decode cX8_digest 193 = .ok (.iconst 0, 1) := by decide +kernel
theorem dX8_digest_194 : decode cX8_digest 194 = .ok (.istore 4, 2) := by decide +kernel
theorem dX8_digest_196 : decode cX8_digest 196 = .ok (.iload 4, 2) := by decide +kernel
theorem dX8_digest_198 : decode cX8_digest 198 = .ok (.bipush 7, 2) := by decide +kernel
theorem dX8_digest_200 : decode cX8_digest 200 = .ok (.if_icmp .ge 24, 3) := by decide +kernel
theorem dX8_digest_203 : decode cX8_digest 203 = .ok (.lload_n 1, 1) := by decide +kernel
theorem dX8_digest_204 : decode cX8_digest 204 = .ok (.ldc2_w 291, 3) := by decide +kernel
theorem dX8_digest_207 : decode cX8_digest 207 = .ok (.lmul, 1) := by decide +kernel
theorem dX8_digest_208 : decode cX8_digest 208 = .ok (.aload_n 0, 1) := by decide +kernel
theorem dX8_digest_209 : decode cX8_digest 209 = .ok (.iload_n 3, 1) := by decide +kernel
theorem dX8_digest_210 : decode cX8_digest 210 = .ok (.iload 4, 2) := by decide +kernel
theorem dX8_digest_212 : decode cX8_digest 212 = .ok (.invokevirtual 286, 3) := by decide +kernel
theorem dX8_digest_215 : decode cX8_digest 215 = .ok (.i2l, 1) := by decide +kernel
theorem dX8_digest_216 : decode cX8_digest 216 = .ok (.ladd, 1) := by decide +kernel
theorem dX8_digest_217 : decode cX8_digest 217 = .ok (.lstore_n 1, 1) := by decide +kernel
theorem dX8_digest_218 : decode cX8_digest 218 = .ok (.iinc 4 1, 3) := by decide +kernel
theorem dX8_digest_221 : decode cX8_digest 221 = .ok (.goto (-25), 3) := by decide +kernel
theorem dX8_digest_224 : decode cX8_digest 224 = .ok (.iinc 3 1, 3) := by decide +kernel
theorem dX8_digest_227 : decode cX8_digest 227 = .ok (.goto (-42), 3) := by decide +kernel
theorem dX8_digest_230 : decode cX8_digest 230 = .ok (.iconst 0, 1) := by decide +kernel
theorem dX8_digest_231 : decode cX8_digest 231 = .ok (.istore_n 3, 1) := by decide +kernel
theorem dX8_digest_232 : decode cX8_digest 232 = .ok (.iload_n 3, 1) := by decide +kernel
theorem dX8_digest_233 : decode cX8_digest 233 = .ok (.aload_n 0, 1) := by decide +kernel
theorem dX8_digest_234 : decode cX8_digest 234 = .ok (.getfield 196, 3) := by decide +kernel
theorem dX8_digest_237 : decode cX8_digest 237 = .ok (.if_icmp .ge 23, 3) := by decide +kernel
theorem dX8_digest_240 : decode cX8_digest 240 = .ok (.lload_n 1, 1) := by decide +kernel
theorem dX8_digest_241 : decode cX8_digest 241 = .ok (.ldc2_w 291, 3) := by decide +kernel
theorem dX8_digest_244 : decode cX8_digest 244 = .ok (.lmul, 1) := by decide +kernel
theorem dX8_digest_245 : decode cX8_digest 245 = .ok (.aload_n 0, 1) := by decide +kernel
theorem dX8_digest_246 : decode cX8_digest 246 = .ok (.getfield 17, 3) := by decide +kernel
theorem dX8_digest_249 : decode cX8_digest 249 = .ok (.iload_n 3, 1) := by decide +kernel
theorem dX8_digest_250 : decode cX8_digest 250 = .ok (.iaload, 1) := by decide +kernel
theorem dX8_digest_251 : decode cX8_digest 251 = .ok (.i2l, 1) := by decide +kernel
theorem dX8_digest_252 : decode cX8_digest 252 = .ok (.ladd, 1) := by decide +kernel
theorem dX8_digest_253 : decode cX8_digest 253 = .ok (.lstore_n 1, 1) := by decide +kernel
theorem dX8_digest_254 : decode cX8_digest 254 = .ok (.iinc 3 1, 3) := by decide +kernel
theorem dX8_digest_257 : decode cX8_digest 257 = .ok (.goto (-25), 3) := by decide +kernel
theorem dX8_digest_260 : decode cX8_digest 260 = .ok (.lload_n 1, 1) := by decide +kernel
theorem dX8_digest_261 : decode cX8_digest 261 = .ok (.lreturn, 1) := by decide +kernel
