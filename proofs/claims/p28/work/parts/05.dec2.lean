theorem dX7_init_0 : decode cX7_init 0 = .ok (.aload_n 0, 1) := by decide +kernel
theorem dX7_init_1 : decode cX7_init 1 = .ok (.invokespecial 1, 3) := by decide +kernel
theorem dX7_init_4 : decode cX7_init 4 = .ok (.aload_n 0, 1) := by decide +kernel
theorem dX7_init_5 : decode cX7_init 5 = .ok (.new 7, 3) := by decide +kernel
theorem dX7_init_8 : decode cX7_init 8 = .ok (.dup, 1) := by decide +kernel
theorem dX7_init_9 : decode cX7_init 9 = .ok (.invokespecial 9, 3) := by decide +kernel
theorem dX7_init_12 : decode cX7_init 12 = .ok (.putfield 10, 3) := by decide +kernel
theorem dX7_init_15 : decode cX7_init 15 = .ok (.aload_n 0, 1) := by decide +kernel
theorem dX7_init_16 : decode cX7_init 16 = .ok (.new 16, 3) := by decide +kernel
theorem dX7_init_19 : decode cX7_init 19 = .ok (.dup, 1) := by decide +kernel
theorem dX7_init_20 : decode cX7_init 20 = .ok (.aload_n 0, 1) := by decide +kernel
theorem dX7_init_21 : decode cX7_init 21 = .ok (.getfield 10, 3) := by decide +kernel
theorem dX7_init_24 : decode cX7_init 24 = .ok (.invokespecial 18, 3) := by decide +kernel
theorem dX7_init_27 : decode cX7_init 27 = .ok (.putfield 21, 3) := by decide +kernel
theorem dX7_init_30 : decode cX7_init 30 = .ok (.aload_n 0, 1) := by decide +kernel
theorem dX7_init_31 : decode cX7_init 31 = .ok (.new 25, 3) := by decide +kernel
theorem dX7_init_34 : decode cX7_init 34 = .ok (.dup, 1) := by decide +kernel
theorem dX7_init_35 : decode cX7_init 35 = .ok (.aload_n 0, 1) := by decide +kernel
theorem dX7_init_36 : decode cX7_init 36 = .ok (.getfield 10, 3) := by decide +kernel
theorem dX7_init_39 : decode cX7_init 39 = .ok (.invokespecial 27, 3) := by decide +kernel
theorem dX7_init_42 : decode cX7_init 42 = .ok (.putfield 28, 3) := by decide +kernel
theorem dX7_init_45 : decode cX7_init 45 = .ok (.aload_n 0, 1) := by decide +kernel
theorem dX7_init_46 : decode cX7_init 46 = .ok (.new 32, 3) := by decide +kernel
theorem dX7_init_49 : decode cX7_init 49 = .ok (.dup, 1) := by decide +kernel
theorem dX7_init_50 : decode cX7_init 50 = .ok (.aload_n 0, 1) := by decide +kernel
theorem dX7_init_51 : decode cX7_init 51 = .ok (.getfield 10, 3) := by decide +kernel
theorem dX7_init_54 : decode cX7_init 54 = .ok (.invokespecial 34, 3) := by decide +kernel
theorem dX7_init_57 : decode cX7_init 57 = .ok (.putfield 35, 3) := by decide +kernel
theorem dX7_init_60 : decode cX7_init 60 = .ok (.aload_n 0, 1) := by decide +kernel
theorem dX7_init_61 : decode cX7_init 61 = .ok (.new 39, 3) := by decide +kernel
theorem dX7_init_64 : decode cX7_init 64 = .ok (.dup, 1) := by decide +kernel
theorem dX7_init_65 : decode cX7_init 65 = .ok (.aload_n 0, 1) := by decide +kernel
theorem dX7_init_66 : decode cX7_init 66 = .ok (.getfield 10, 3) := by decide +kernel
theorem dX7_init_69 : decode cX7_init 69 = .ok (.aload_n 0, 1) := by decide +kernel
theorem dX7_init_70 : decode cX7_init 70 = .ok (.getfield 35, 3) := by decide +kernel
theorem dX7_init_73 : decode cX7_init 73 = .ok (.invokespecial 41, 3) := by decide +kernel
theorem dX7_init_76 : decode cX7_init 76 = .ok (.putfield 44, 3) := by decide +kernel
theorem dX7_init_79 : decode cX7_init 79 = .ok (.aload_n 0, 1) := by decide +kernel
theorem dX7_init_80 : decode cX7_init 80 = .ok (.new 48, 3) := by decide +kernel
theorem dX7_init_83 : decode cX7_init 83 = .ok (.dup, 1) := by decide +kernel
theorem dX7_init_84 : decode cX7_init 84 = .ok (.aload_n 0, 1) := by decide +kernel
theorem dX7_init_85 : decode cX7_init 85 = .ok (.getfield 10, 3) := by decide +kernel
theorem dX7_init_88 : decode cX7_init 88 = .ok (.aload_n 0, 1) := by decide +kernel
theorem dX7_init_89 : decode cX7_init 89 = .ok (.getfield 35, 3) := by decide +kernel
theorem dX7_init_92 : decode cX7_init 92 = .ok (.aload_n 0, 1) := by decide +kernel
theorem dX7_init_93 : decode cX7_init 93 = .ok (.getfield 44, 3) := by decide +kernel
theorem dX7_init_96 : decode cX7_init 96 = .ok (.invokespecial 50, 3) := by decide +kernel
theorem dX7_init_99 : decode cX7_init 99 = .ok (.putfield 53, 3) := by decide +kernel
theorem dX7_init_102 : decode cX7_init 102 = .ok (.return_, 1) := by decide +kernel
theorem dX7_make_0 : decode cX7_make 0 = .ok (.iload_n 1, 1) := by decide +kernel
theorem dX7_make_1 : decode cX7_make 1 = .ok (.ifCond .lt 8, 3) := by decide +kernel
theorem dX7_make_4 : decode cX7_make 4 = .ok (.iload_n 1, 1) := by decide +kernel
theorem dX7_make_5 : decode cX7_make 5 = .ok (.iconst 5, 1) := by decide +kernel
theorem dX7_make_6 : decode cX7_make 6 = .ok (.if_icmp .le 13, 3) := by decide +kernel
theorem dX7_make_9 : decode cX7_make 9 = .ok (.new 72, 3) := by decide +kernel
theorem dX7_make_12 : decode cX7_make 12 = .ok (.dup, 1) := by decide +kernel
theorem dX7_make_13 : decode cX7_make 13 = .ok (.ldc 86, 2) := by decide +kernel
theorem dX7_make_15 : decode cX7_make 15 = .ok (.invokespecial 76, 3) := by decide +kernel
theorem dX7_make_18 : decode cX7_make 18 = .ok (.athrow, 1) := by decide +kernel
theorem dX7_make_19 : decode cX7_make 19 = .ok (.iload_n 1, 1) := by decide +kernel
theorem dX7_make_20 : decode cX7_make 20 = .ok (.ifCond .ne 23, 3) := by decide +kernel
theorem dX7_make_23 : decode cX7_make 23 = .ok (.iload_n 2, 1) := by decide +kernel
theorem dX7_make_24 : decode cX7_make 24 = .ok (.ifCond .lt 9, 3) := by decide +kernel
theorem dX7_make_27 : decode cX7_make 27 = .ok (.iload_n 2, 1) := by decide +kernel
theorem dX7_make_28 : decode cX7_make 28 = .ok (.bipush 8, 2) := by decide +kernel
theorem dX7_make_30 : decode cX7_make 30 = .ok (.if_icmp .lt 13, 3) := by decide +kernel
theorem dX7_make_33 : decode cX7_make 33 = .ok (.new 72, 3) := by decide +kernel
theorem dX7_make_36 : decode cX7_make 36 = .ok (.dup, 1) := by decide +kernel
theorem dX7_make_37 : decode cX7_make 37 = .ok (.ldc 88, 2) := by decide +kernel
theorem dX7_make_39 : decode cX7_make 39 = .ok (.invokespecial 76, 3) := by decide +kernel
theorem dX7_make_42 : decode cX7_make 42 = .ok (.athrow, 1) := by decide +kernel
theorem dX7_make_43 : decode cX7_make 43 = .ok (.aload_n 0, 1) := by decide +kernel
theorem dX7_make_44 : decode cX7_make 44 = .ok (.getfield 10, 3) := by decide +kernel
theorem dX7_make_47 : decode cX7_make 47 = .ok (.iload_n 1, 1) := by decide +kernel
theorem dX7_make_48 : decode cX7_make 48 = .ok (.iload_n 2, 1) := by decide +kernel
theorem dX7_make_49 : decode cX7_make 49 = .ok (.iload_n 3, 1) := by decide +kernel
theorem dX7_make_50 : decode cX7_make 50 = .ok (.invokevirtual 90, 3) := by decide +kernel
theorem dX7_make_53 : decode cX7_make 53 = .ok (.ifCond .ne 13, 3) := by decide +kernel
theorem dX7_make_56 : decode cX7_make 56 = .ok (.new 94, 3) := by decide +kernel
theorem dX7_make_59 : decode cX7_make 59 = .ok (.dup, 1) := by decide +kernel
theorem dX7_make_60 : decode cX7_make 60 = .ok (.ldc 96, 2) := by decide +kernel
theorem dX7_make_62 : decode cX7_make 62 = .ok (.invokespecial 98, 3) := by decide +kernel
theorem dX7_make_65 : decode cX7_make 65 = .ok (.athrow, 1) := by decide +kernel
theorem dX7_make_66 : decode cX7_make 66 = .ok (.aload_n 0, 1) := by decide +kernel
theorem dX7_make_67 : decode cX7_make 67 = .ok (.getfield 10, 3) := by decide +kernel
theorem dX7_make_70 : decode cX7_make 70 = .ok (.iload_n 1, 1) := by decide +kernel
theorem dX7_make_71 : decode cX7_make 71 = .ok (.iload_n 2, 1) := by decide +kernel
theorem dX7_make_72 : decode cX7_make 72 = .ok (.iload_n 3, 1) := by decide +kernel
theorem dX7_make_73 : decode cX7_make 73 = .ok (.invokevirtual 99, 3) := by decide +kernel
theorem dX7_make_76 : decode cX7_make 76 = .ok (.istore 4, 2) := by decide +kernel
theorem dX7_make_78 : decode cX7_make 78 = .ok (.iload 4, 2) := by decide +kernel
theorem dX7_make_80 : decode cX7_make 80 = .ok (.ifCond .ge 13, 3) := by decide +kernel
theorem dX7_make_83 : decode cX7_make 83 = .ok (.new 61, 3) := by decide +kernel
theorem dX7_make_86 : decode cX7_make 86 = .ok (.dup, 1) := by decide +kernel
theorem dX7_make_87 : decode cX7_make 87 = .ok (.ldc 103, 2) := by decide +kernel
theorem dX7_make_89 : decode cX7_make 89 = .ok (.invokespecial 65, 3) := by decide +kernel
theorem dX7_make_92 : decode cX7_make 92 = .ok (.athrow, 1) := by decide +kernel
theorem dX7_make_93 : decode cX7_make 93 = .ok (.iload 4, 2) := by decide +kernel
theorem dX7_make_95 : decode cX7_make 95 = .ok (.ireturn, 1) := by decide +kernel
theorem dX7_formula_0 : decode cX7_formula 0 = .ok (.aload_n 0, 1) := by decide +kernel
theorem dX7_formula_1 : decode cX7_formula 1 = .ok (.getfield 10, 3) := by decide +kernel
theorem dX7_formula_4 : decode cX7_formula 4 = .ok (.iload_n 1, 1) := by decide +kernel
theorem dX7_formula_5 : decode cX7_formula 5 = .ok (.invokevirtual 105, 3) := by decide +kernel
theorem dX7_formula_8 : decode cX7_formula 8 = .ok (.ifCond .eq 12, 3) := by decide +kernel
theorem dX7_formula_11 : decode cX7_formula 11 = .ok (.iload_n 2, 1) := by decide +kernel
theorem dX7_formula_12 : decode cX7_formula 12 = .ok (.ifCond .lt 8, 3) := by decide +kernel
theorem dX7_formula_15 : decode cX7_formula 15 = .ok (.iload_n 2, 1) := by decide +kernel
theorem dX7_formula_16 : decode cX7_formula 16 = .ok (.iconst 5, 1) := by decide +kernel
theorem dX7_formula_17 : decode cX7_formula 17 = .ok (.if_icmp .le 13, 3) := by decide +kernel
theorem dX7_formula_20 : decode cX7_formula 20 = .ok (.new 94, 3) := by decide +kernel
theorem dX7_formula_23 : decode cX7_formula 23 = .ok (.dup, 1) := by decide +kernel
theorem dX7_formula_24 : decode cX7_formula 24 = .ok (.ldc 109, 2) := by decide +kernel
theorem dX7_formula_26 : decode cX7_formula 26 = .ok (.invokespecial 98, 3) := by decide +kernel
theorem dX7_formula_29 : decode cX7_formula 29 = .ok (.athrow, 1) := by decide +kernel
theorem dX7_formula_30 : decode cX7_formula 30 = .ok (.iload_n 2, 1) := by decide +kernel
theorem dX7_formula_31 : decode cX7_formula 31 = .ok (.tableswitch 78 0 4 #[33, 42, 51, 60, 69], 33) := by decide +kernel
theorem dX7_formula_64 : decode cX7_formula 64 = .ok (.aload_n 0, 1) := by decide +kernel
theorem dX7_formula_65 : decode cX7_formula 65 = .ok (.getfield 10, 3) := by decide +kernel
theorem dX7_formula_68 : decode cX7_formula 68 = .ok (.iload_n 1, 1) := by decide +kernel
theorem dX7_formula_69 : decode cX7_formula 69 = .ok (.invokevirtual 111, 3) := by decide +kernel
theorem dX7_formula_72 : decode cX7_formula 72 = .ok (.ireturn, 1) := by decide +kernel
theorem dX7_formula_73 : decode cX7_formula 73 = .ok (.aload_n 0, 1) := by decide +kernel
theorem dX7_formula_74 : decode cX7_formula 74 = .ok (.getfield 10, 3) := by decide +kernel
theorem dX7_formula_77 : decode cX7_formula 77 = .ok (.iload_n 1, 1) := by decide +kernel
theorem dX7_formula_78 : decode cX7_formula 78 = .ok (.invokevirtual 115, 3) := by decide +kernel
theorem dX7_formula_81 : decode cX7_formula 81 = .ok (.ireturn, 1) := by decide +kernel
theorem dX7_formula_82 : decode cX7_formula 82 = .ok (.aload_n 0, 1) := by decide +kernel
theorem dX7_formula_83 : decode cX7_formula 83 = .ok (.getfield 10, 3) := by decide +kernel
theorem dX7_formula_86 : decode cX7_formula 86 = .ok (.iload_n 1, 1) := by decide +kernel
theorem dX7_formula_87 : decode cX7_formula 87 = .ok (.invokevirtual 118, 3) := by decide +kernel
theorem dX7_formula_90 : decode cX7_formula 90 = .ok (.ireturn, 1) := by decide +kernel
theorem dX7_formula_91 : decode cX7_formula 91 = .ok (.aload_n 0, 1) := by decide +kernel
theorem dX7_formula_92 : decode cX7_formula 92 = .ok (.getfield 10, 3) := by decide +kernel
theorem dX7_formula_95 : decode cX7_formula 95 = .ok (.iload_n 1, 1) := by decide +kernel
theorem dX7_formula_96 : decode cX7_formula 96 = .ok (.invokevirtual 121, 3) := by decide +kernel
theorem dX7_formula_99 : decode cX7_formula 99 = .ok (.ireturn, 1) := by decide +kernel
theorem dX7_formula_100 : decode cX7_formula 100 = .ok (.aload_n 0, 1) := by decide +kernel
theorem dX7_formula_101 : decode cX7_formula 101 = .ok (.getfield 10, 3) := by decide +kernel
theorem dX7_formula_104 : decode cX7_formula 104 = .ok (.iload_n 1, 1) := by decide +kernel
theorem dX7_formula_105 : decode cX7_formula 105 = .ok (.invokevirtual 124, 3) := by decide +kernel
theorem dX7_formula_108 : decode cX7_formula 108 = .ok (.ireturn, 1) := by decide +kernel
theorem dX7_formula_109 : decode cX7_formula 109 = .ok (.aload_n 0, 1) := by decide +kernel
theorem dX7_formula_110 : decode cX7_formula 110 = .ok (.getfield 10, 3) := by decide +kernel
theorem dX7_formula_113 : decode cX7_formula 113 = .ok (.iload_n 1, 1) := by decide +kernel
theorem dX7_formula_114 : decode cX7_formula 114 = .ok (.invokevirtual 127, 3) := by decide +kernel
theorem dX7_formula_117 : decode cX7_formula 117 = .ok (.ireturn, 1) := by decide +kernel
theorem dX7_begin_0 : decode cX7_begin 0 = .ok (.aload_n 0, 1) := by decide +kernel
theorem dX7_begin_1 : decode cX7_begin 1 = .ok (.getfield 44, 3) := by decide +kernel
theorem dX7_begin_4 : decode cX7_begin 4 = .ok (.invokevirtual 151, 3) := by decide +kernel
theorem dX7_begin_7 : decode cX7_begin 7 = .ok (.istore_n 1, 1) := by decide +kernel
theorem dX7_begin_8 : decode cX7_begin 8 = .ok (.aload_n 0, 1) := by decide +kernel
theorem dX7_begin_9 : decode cX7_begin 9 = .ok (.getfield 44, 3) := by decide +kernel
theorem dX7_begin_12 : decode cX7_begin 12 = .ok (.invokevirtual 154, 3) := by decide +kernel
theorem dX7_begin_15 : decode cX7_begin 15 = .ok (.iload_n 1, 1) := by decide +kernel
theorem dX7_begin_16 : decode cX7_begin 16 = .ok (.ireturn, 1) := by decide +kernel
theorem dX7_premise_0 : decode cX7_premise 0 = .ok (.aload_n 0, 1) := by decide +kernel
theorem dX7_premise_1 : decode cX7_premise 1 = .ok (.getfield 10, 3) := by decide +kernel
theorem dX7_premise_4 : decode cX7_premise 4 = .ok (.iload_n 1, 1) := by decide +kernel
theorem dX7_premise_5 : decode cX7_premise 5 = .ok (.invokevirtual 105, 3) := by decide +kernel
theorem dX7_premise_8 : decode cX7_premise 8 = .ok (.ifCond .ne 13, 3) := by decide +kernel
theorem dX7_premise_11 : decode cX7_premise 11 = .ok (.new 94, 3) := by decide +kernel
theorem dX7_premise_14 : decode cX7_premise 14 = .ok (.dup, 1) := by decide +kernel
theorem dX7_premise_15 : decode cX7_premise 15 = .ok (.ldc 129, 2) := by decide +kernel
theorem dX7_premise_17 : decode cX7_premise 17 = .ok (.invokespecial 98, 3) := by decide +kernel
theorem dX7_premise_20 : decode cX7_premise 20 = .ok (.athrow, 1) := by decide +kernel
theorem dX7_premise_21 : decode cX7_premise 21 = .ok (.aload_n 0, 1) := by decide +kernel
theorem dX7_premise_22 : decode cX7_premise 22 = .ok (.getfield 44, 3) := by decide +kernel
theorem dX7_premise_25 : decode cX7_premise 25 = .ok (.invokevirtual 157, 3) := by decide +kernel
theorem dX7_premise_28 : decode cX7_premise 28 = .ok (.istore_n 2, 1) := by decide +kernel
theorem dX7_premise_29 : decode cX7_premise 29 = .ok (.iload_n 2, 1) := by decide +kernel
theorem dX7_premise_30 : decode cX7_premise 30 = .ok (.aload_n 0, 1) := by decide +kernel
theorem dX7_premise_31 : decode cX7_premise 31 = .ok (.getfield 44, 3) := by decide +kernel
theorem dX7_premise_34 : decode cX7_premise 34 = .ok (.invokevirtual 151, 3) := by decide +kernel
theorem dX7_premise_37 : decode cX7_premise 37 = .ok (.if_icmp .lt 8, 3) := by decide +kernel
theorem dX7_premise_40 : decode cX7_premise 40 = .ok (.iload_n 2, 1) := by decide +kernel
theorem dX7_premise_41 : decode cX7_premise 41 = .ok (.iconst 2, 1) := by decide +kernel
theorem dX7_premise_42 : decode cX7_premise 42 = .ok (.if_icmp .lt 13, 3) := by decide +kernel
theorem dX7_premise_45 : decode cX7_premise 45 = .ok (.new 61, 3) := by decide +kernel
theorem dX7_premise_48 : decode cX7_premise 48 = .ok (.dup, 1) := by decide +kernel
theorem dX7_premise_49 : decode cX7_premise 49 = .ok (.ldc 160, 2) := by decide +kernel
theorem dX7_premise_51 : decode cX7_premise 51 = .ok (.invokespecial 65, 3) := by decide +kernel
theorem dX7_premise_54 : decode cX7_premise 54 = .ok (.athrow, 1) := by decide +kernel
theorem dX7_premise_55 : decode cX7_premise 55 = .ok (.aload_n 0, 1) := by decide +kernel
theorem dX7_premise_56 : decode cX7_premise 56 = .ok (.getfield 44, 3) := by decide +kernel
theorem dX7_premise_59 : decode cX7_premise 59 = .ok (.iload_n 1, 1) := by decide +kernel
theorem dX7_premise_60 : decode cX7_premise 60 = .ok (.bipush 15, 2) := by decide +kernel
theorem dX7_premise_62 : decode cX7_premise 62 = .ok (.iconst 0, 1) := by decide +kernel
theorem dX7_premise_63 : decode cX7_premise 63 = .ok (.iconst 0, 1) := by decide +kernel
theorem dX7_premise_64 : decode cX7_premise 64 = .ok (.iconst 0, 1) := by decide +kernel
theorem dX7_premise_65 : decode cX7_premise 65 = .ok (.invokevirtual 162, 3) := by decide +kernel
theorem dX7_premise_68 : decode cX7_premise 68 = .ok (.ireturn, 1) := by decide +kernel
theorem dX7_assume_0 : decode cX7_assume 0 = .ok (.aload_n 0, 1) := by decide +kernel
theorem dX7_assume_1 : decode cX7_assume 1 = .ok (.getfield 10, 3) := by decide +kernel
theorem dX7_assume_4 : decode cX7_assume 4 = .ok (.iload_n 1, 1) := by decide +kernel
theorem dX7_assume_5 : decode cX7_assume 5 = .ok (.invokevirtual 105, 3) := by decide +kernel
theorem dX7_assume_8 : decode cX7_assume 8 = .ok (.ifCond .ne 13, 3) := by decide +kernel
theorem dX7_assume_11 : decode cX7_assume 11 = .ok (.new 94, 3) := by decide +kernel
theorem dX7_assume_14 : decode cX7_assume 14 = .ok (.dup, 1) := by decide +kernel
theorem dX7_assume_15 : decode cX7_assume 15 = .ok (.ldc 129, 2) := by decide +kernel
theorem dX7_assume_17 : decode cX7_assume 17 = .ok (.invokespecial 98, 3) := by decide +kernel
theorem dX7_assume_20 : decode cX7_assume 20 = .ok (.athrow, 1) := by decide +kernel
theorem dX7_assume_21 : decode cX7_assume 21 = .ok (.aload_n 0, 1) := by decide +kernel
theorem dX7_assume_22 : decode cX7_assume 22 = .ok (.getfield 44, 3) := by decide +kernel
theorem dX7_assume_25 : decode cX7_assume 25 = .ok (.invokevirtual 166, 3) := by decide +kernel
theorem dX7_assume_28 : decode cX7_assume 28 = .ok (.bipush 6, 2) := by decide +kernel
theorem dX7_assume_30 : decode cX7_assume 30 = .ok (.if_icmp .ge 15, 3) := by decide +kernel
theorem dX7_assume_33 : decode cX7_assume 33 = .ok (.aload_n 0, 1) := by decide +kernel
theorem dX7_assume_34 : decode cX7_assume 34 = .ok (.getfield 44, 3) := by decide +kernel
theorem dX7_assume_37 : decode cX7_assume 37 = .ok (.invokevirtual 151, 3) := by decide +kernel
theorem dX7_assume_40 : decode cX7_assume 40 = .ok (.bipush 60, 2) := by decide +kernel
theorem dX7_assume_42 : decode cX7_assume 42 = .ok (.if_icmp .lt 13, 3) := by decide +kernel
theorem dX7_assume_45 : decode cX7_assume 45 = .ok (.new 61, 3) := by decide +kernel
theorem dX7_assume_48 : decode cX7_assume 48 = .ok (.dup, 1) := by decide +kernel
theorem dX7_assume_49 : decode cX7_assume 49 = .ok (.ldc 169, 2) := by decide +kernel
theorem dX7_assume_51 : decode cX7_assume 51 = .ok (.invokespecial 65, 3) := by decide +kernel
theorem dX7_assume_54 : decode cX7_assume 54 = .ok (.athrow, 1) := by decide +kernel
theorem dX7_assume_55 : decode cX7_assume 55 = .ok (.aload_n 0, 1) := by decide +kernel
theorem dX7_assume_56 : decode cX7_assume 56 = .ok (.getfield 44, 3) := by decide +kernel
theorem dX7_assume_59 : decode cX7_assume 59 = .ok (.invokevirtual 171, 3) := by decide +kernel
theorem dX7_assume_62 : decode cX7_assume 62 = .ok (.aload_n 0, 1) := by decide +kernel
theorem dX7_assume_63 : decode cX7_assume 63 = .ok (.getfield 44, 3) := by decide +kernel
theorem dX7_assume_66 : decode cX7_assume 66 = .ok (.iload_n 1, 1) := by decide +kernel
theorem dX7_assume_67 : decode cX7_assume 67 = .ok (.bipush 14, 2) := by decide +kernel
theorem dX7_assume_69 : decode cX7_assume 69 = .ok (.iconst 0, 1) := by decide +kernel
theorem dX7_assume_70 : decode cX7_assume 70 = .ok (.iconst 0, 1) := by decide +kernel
theorem dX7_assume_71 : decode cX7_assume 71 = .ok (.iconst 0, 1) := by decide +kernel
theorem dX7_assume_72 : decode cX7_assume 72 = .ok (.invokevirtual 162, 3) := by decide +kernel
theorem dX7_assume_75 : decode cX7_assume 75 = .ok (.ireturn, 1) := by decide +kernel
theorem dX7_close_0 : decode cX7_close 0 = .ok (.aload_n 0, 1) := by decide +kernel
theorem dX7_close_1 : decode cX7_close 1 = .ok (.getfield 44, 3) := by decide +kernel
theorem dX7_close_4 : decode cX7_close 4 = .ok (.invokevirtual 166, 3) := by decide +kernel
theorem dX7_close_7 : decode cX7_close 7 = .ok (.ifCond .gt 13, 3) := by decide +kernel
theorem dX7_close_10 : decode cX7_close 10 = .ok (.new 61, 3) := by decide +kernel
theorem dX7_close_13 : decode cX7_close 13 = .ok (.dup, 1) := by decide +kernel
theorem dX7_close_14 : decode cX7_close 14 = .ok (.ldc 174, 2) := by decide +kernel
theorem dX7_close_16 : decode cX7_close 16 = .ok (.invokespecial 65, 3) := by decide +kernel
theorem dX7_close_19 : decode cX7_close 19 = .ok (.athrow, 1) := by decide +kernel
theorem dX7_close_20 : decode cX7_close 20 = .ok (.aload_n 0, 1) := by decide +kernel
theorem dX7_close_21 : decode cX7_close 21 = .ok (.getfield 44, 3) := by decide +kernel
theorem dX7_close_24 : decode cX7_close 24 = .ok (.invokevirtual 176, 3) := by decide +kernel
theorem dX7_close_27 : decode cX7_close 27 = .ok (.ireturn, 1) := by decide +kernel
theorem dX7_step_0 : decode cX7_step 0 = .ok (.iload_n 1, 1) := by decide +kernel
theorem dX7_step_1 : decode cX7_step 1 = .ok (.ifCond .lt 9, 3) := by decide +kernel
theorem dX7_step_4 : decode cX7_step 4 = .ok (.iload_n 1, 1) := by decide +kernel
theorem dX7_step_5 : decode cX7_step 5 = .ok (.bipush 13, 2) := by decide +kernel
theorem dX7_step_7 : decode cX7_step 7 = .ok (.if_icmp .le 13, 3) := by decide +kernel
theorem dX7_step_10 : decode cX7_step 10 = .ok (.new 72, 3) := by decide +kernel
theorem dX7_step_13 : decode cX7_step 13 = .ok (.dup, 1) := by decide +kernel
theorem dX7_step_14 : decode cX7_step 14 = .ok (.ldc 179, 2) := by decide +kernel
theorem dX7_step_16 : decode cX7_step 16 = .ok (.invokespecial 76, 3) := by decide +kernel
theorem dX7_step_19 : decode cX7_step 19 = .ok (.athrow, 1) := by decide +kernel
theorem dX7_step_20 : decode cX7_step 20 = .ok (.aload_n 0, 1) := by decide +kernel
theorem dX7_step_21 : decode cX7_step 21 = .ok (.getfield 10, 3) := by decide +kernel
theorem dX7_step_24 : decode cX7_step 24 = .ok (.iload_n 2, 1) := by decide +kernel
theorem dX7_step_25 : decode cX7_step 25 = .ok (.invokevirtual 105, 3) := by decide +kernel
theorem dX7_step_28 : decode cX7_step 28 = .ok (.ifCond .ne 13, 3) := by decide +kernel
theorem dX7_step_31 : decode cX7_step 31 = .ok (.new 94, 3) := by decide +kernel
theorem dX7_step_34 : decode cX7_step 34 = .ok (.dup, 1) := by decide +kernel
theorem dX7_step_35 : decode cX7_step 35 = .ok (.ldc 129, 2) := by decide +kernel
theorem dX7_step_37 : decode cX7_step 37 = .ok (.invokespecial 98, 3) := by decide +kernel
theorem dX7_step_40 : decode cX7_step 40 = .ok (.athrow, 1) := by decide +kernel
theorem dX7_step_41 : decode cX7_step 41 = .ok (.aload_n 0, 1) := by decide +kernel
theorem dX7_step_42 : decode cX7_step 42 = .ok (.getfield 44, 3) := by decide +kernel
theorem dX7_step_45 : decode cX7_step 45 = .ok (.invokevirtual 151, 3) := by decide +kernel
theorem dX7_step_48 : decode cX7_step 48 = .ok (.bipush 60, 2) := by decide +kernel
theorem dX7_step_50 : decode cX7_step 50 = .ok (.if_icmp .lt 13, 3) := by decide +kernel
theorem dX7_step_53 : decode cX7_step 53 = .ok (.new 61, 3) := by decide +kernel
theorem dX7_step_56 : decode cX7_step 56 = .ok (.dup, 1) := by decide +kernel
theorem dX7_step_57 : decode cX7_step 57 = .ok (.ldc 181, 2) := by decide +kernel
theorem dX7_step_59 : decode cX7_step 59 = .ok (.invokespecial 65, 3) := by decide +kernel
theorem dX7_step_62 : decode cX7_step 62 = .ok (.athrow, 1) := by decide +kernel
theorem dX7_step_63 : decode cX7_step 63 = .ok (.aload_n 0, 1) := by decide +kernel
theorem dX7_step_64 : decode cX7_step 64 = .ok (.getfield 53, 3) := by decide +kernel
theorem dX7_step_67 : decode cX7_step 67 = .ok (.iload_n 1, 1) := by decide +kernel
theorem dX7_step_68 : decode cX7_step 68 = .ok (.iload_n 2, 1) := by decide +kernel
theorem dX7_step_69 : decode cX7_step 69 = .ok (.iload_n 3, 1) := by decide +kernel
theorem dX7_step_70 : decode cX7_step 70 = .ok (.iload 4, 2) := by decide +kernel
theorem dX7_step_72 : decode cX7_step 72 = .ok (.iload 5, 2) := by decide +kernel
theorem dX7_step_74 : decode cX7_step 74 = .ok (.invokevirtual 183, 3) := by decide +kernel
theorem dX7_step_77 : decode cX7_step 77 = .ok (.istore 6, 2) := by decide +kernel
theorem dX7_step_79 : decode cX7_step 79 = .ok (.iload 6, 2) := by decide +kernel
theorem dX7_step_81 : decode cX7_step 81 = .ok (.ifCond .ne 32, 3) := by decide +kernel
theorem dX7_step_84 : decode cX7_step 84 = .ok (.aload_n 0, 1) := by decide +kernel
theorem dX7_step_85 : decode cX7_step 85 = .ok (.getfield 44, 3) := by decide +kernel
theorem dX7_step_88 : decode cX7_step 88 = .ok (.iload_n 2, 1) := by decide +kernel
theorem dX7_step_89 : decode cX7_step 89 = .ok (.iload_n 1, 1) := by decide +kernel
theorem dX7_step_90 : decode cX7_step 90 = .ok (.iload_n 3, 1) := by decide +kernel
theorem dX7_step_91 : decode cX7_step 91 = .ok (.iload 4, 2) := by decide +kernel
theorem dX7_step_93 : decode cX7_step 93 = .ok (.iload 5, 2) := by decide +kernel
theorem dX7_step_95 : decode cX7_step 95 = .ok (.invokevirtual 162, 3) := by decide +kernel
theorem dX7_step_98 : decode cX7_step 98 = .ok (.pop, 1) := by decide +kernel
theorem dX7_step_99 : decode cX7_step 99 = .ok (.iload_n 1, 1) := by decide +kernel
theorem dX7_step_100 : decode cX7_step 100 = .ok (.bipush 13, 2) := by decide +kernel
theorem dX7_step_102 : decode cX7_step 102 = .ok (.if_icmp .ne 11, 3) := by decide +kernel
theorem dX7_step_105 : decode cX7_step 105 = .ok (.aload_n 0, 1) := by decide +kernel
theorem dX7_step_106 : decode cX7_step 106 = .ok (.getfield 35, 3) := by decide +kernel
theorem dX7_step_109 : decode cX7_step 109 = .ok (.iload_n 3, 1) := by decide +kernel
theorem dX7_step_110 : decode cX7_step 110 = .ok (.invokevirtual 186, 3) := by decide +kernel
theorem dX7_step_113 : decode cX7_step 113 = .ok (.iload 6, 2) := by decide +kernel
theorem dX7_step_115 : decode cX7_step 115 = .ok (.ireturn, 1) := by decide +kernel
theorem dX7_undo_0 : decode cX7_undo 0 = .ok (.aload_n 0, 1) := by decide +kernel
theorem dX7_undo_1 : decode cX7_undo 1 = .ok (.getfield 44, 3) := by decide +kernel
theorem dX7_undo_4 : decode cX7_undo 4 = .ok (.invokevirtual 189, 3) := by decide +kernel
theorem dX7_undo_7 : decode cX7_undo 7 = .ok (.ifCond .ne 13, 3) := by decide +kernel
theorem dX7_undo_10 : decode cX7_undo 10 = .ok (.new 61, 3) := by decide +kernel
theorem dX7_undo_13 : decode cX7_undo 13 = .ok (.dup, 1) := by decide +kernel
theorem dX7_undo_14 : decode cX7_undo 14 = .ok (.ldc 193, 2) := by decide +kernel
theorem dX7_undo_16 : decode cX7_undo 16 = .ok (.invokespecial 65, 3) := by decide +kernel
theorem dX7_undo_19 : decode cX7_undo 19 = .ok (.athrow, 1) := by decide +kernel
theorem dX7_undo_20 : decode cX7_undo 20 = .ok (.aload_n 0, 1) := by decide +kernel
theorem dX7_undo_21 : decode cX7_undo 21 = .ok (.getfield 44, 3) := by decide +kernel
theorem dX7_undo_24 : decode cX7_undo 24 = .ok (.invokevirtual 195, 3) := by decide +kernel
theorem dX7_undo_27 : decode cX7_undo 27 = .ok (.aload_n 0, 1) := by decide +kernel
theorem dX7_undo_28 : decode cX7_undo 28 = .ok (.getfield 44, 3) := by decide +kernel
theorem dX7_undo_31 : decode cX7_undo 31 = .ok (.invokevirtual 151, 3) := by decide +kernel
theorem dX7_undo_34 : decode cX7_undo 34 = .ok (.ireturn, 1) := by decide +kernel
theorem dX7_count_0 : decode cX7_count 0 = .ok (.iload_n 1, 1) := by decide +kernel
theorem dX7_count_1 : decode cX7_count 1 = .ok (.tableswitch 123 0 8 #[51, 59, 67, 75, 83, 91, 99, 107, 115], 51) := by decide +kernel
theorem dX7_count_52 : decode cX7_count 52 = .ok (.aload_n 0, 1) := by decide +kernel
theorem dX7_count_53 : decode cX7_count 53 = .ok (.getfield 10, 3) := by decide +kernel
theorem dX7_count_56 : decode cX7_count 56 = .ok (.invokevirtual 198, 3) := by decide +kernel
theorem dX7_count_59 : decode cX7_count 59 = .ok (.ireturn, 1) := by decide +kernel
theorem dX7_count_60 : decode cX7_count 60 = .ok (.aload_n 0, 1) := by decide +kernel
theorem dX7_count_61 : decode cX7_count 61 = .ok (.getfield 21, 3) := by decide +kernel
theorem dX7_count_64 : decode cX7_count 64 = .ok (.invokevirtual 57, 3) := by decide +kernel
theorem dX7_count_67 : decode cX7_count 67 = .ok (.ireturn, 1) := by decide +kernel
theorem dX7_count_68 : decode cX7_count 68 = .ok (.aload_n 0, 1) := by decide +kernel
theorem dX7_count_69 : decode cX7_count 69 = .ok (.getfield 28, 3) := by decide +kernel
theorem dX7_count_72 : decode cX7_count 72 = .ok (.invokevirtual 145, 3) := by decide +kernel
theorem dX7_count_75 : decode cX7_count 75 = .ok (.ireturn, 1) := by decide +kernel
theorem dX7_count_76 : decode cX7_count 76 = .ok (.aload_n 0, 1) := by decide +kernel
theorem dX7_count_77 : decode cX7_count 77 = .ok (.getfield 44, 3) := by decide +kernel
theorem dX7_count_80 : decode cX7_count 80 = .ok (.invokevirtual 151, 3) := by decide +kernel
theorem dX7_count_83 : decode cX7_count 83 = .ok (.ireturn, 1) := by decide +kernel
theorem dX7_count_84 : decode cX7_count 84 = .ok (.aload_n 0, 1) := by decide +kernel
theorem dX7_count_85 : decode cX7_count 85 = .ok (.getfield 44, 3) := by decide +kernel
theorem dX7_count_88 : decode cX7_count 88 = .ok (.invokevirtual 201, 3) := by decide +kernel
theorem dX7_count_91 : decode cX7_count 91 = .ok (.ireturn, 1) := by decide +kernel
theorem dX7_count_92 : decode cX7_count 92 = .ok (.aload_n 0, 1) := by decide +kernel
theorem dX7_count_93 : decode cX7_count 93 = .ok (.getfield 44, 3) := by decide +kernel
theorem dX7_count_96 : decode cX7_count 96 = .ok (.invokevirtual 166, 3) := by decide +kernel
theorem dX7_count_99 : decode cX7_count 99 = .ok (.ireturn, 1) := by decide +kernel
theorem dX7_count_100 : decode cX7_count 100 = .ok (.aload_n 0, 1) := by decide +kernel
theorem dX7_count_101 : decode cX7_count 101 = .ok (.getfield 44, 3) := by decide +kernel
theorem dX7_count_104 : decode cX7_count 104 = .ok (.invokevirtual 157, 3) := by decide +kernel
theorem dX7_count_107 : decode cX7_count 107 = .ok (.ireturn, 1) := by decide +kernel
theorem dX7_count_108 : decode cX7_count 108 = .ok (.aload_n 0, 1) := by decide +kernel
theorem dX7_count_109 : decode cX7_count 109 = .ok (.getfield 35, 3) := by decide +kernel
theorem dX7_count_112 : decode cX7_count 112 = .ok (.invokevirtual 204, 3) := by decide +kernel
theorem dX7_count_115 : decode cX7_count 115 = .ok (.ireturn, 1) := by decide +kernel
theorem dX7_count_116 : decode cX7_count 116 = .ok (.aload_n 0, 1) := by decide +kernel
theorem dX7_count_117 : decode cX7_count 117 = .ok (.getfield 44, 3) := by decide +kernel
theorem dX7_count_120 : decode cX7_count 120 = .ok (.invokevirtual 205, 3) := by decide +kernel
theorem dX7_count_123 : decode cX7_count 123 = .ok (.ireturn, 1) := by decide +kernel
theorem dX7_count_124 : decode cX7_count 124 = .ok (.new 94, 3) := by decide +kernel
theorem dX7_count_127 : decode cX7_count 127 = .ok (.dup, 1) := by decide +kernel
theorem dX7_count_128 : decode cX7_count 128 = .ok (.ldc 208, 2) := by decide +kernel
theorem dX7_count_130 : decode cX7_count 130 = .ok (.invokespecial 98, 3) := by decide +kernel
theorem dX7_count_133 : decode cX7_count 133 = .ok (.athrow, 1) := by decide +kernel
theorem dX7_line_0 : decode cX7_line 0 = .ok (.iload_n 1, 1) := by decide +kernel
theorem dX7_line_1 : decode cX7_line 1 = .ok (.ifCond .lt 24, 3) := by decide +kernel
theorem dX7_line_4 : decode cX7_line 4 = .ok (.iload_n 1, 1) := by decide +kernel
theorem dX7_line_5 : decode cX7_line 5 = .ok (.aload_n 0, 1) := by decide +kernel
theorem dX7_line_6 : decode cX7_line 6 = .ok (.getfield 44, 3) := by decide +kernel
theorem dX7_line_9 : decode cX7_line 9 = .ok (.invokevirtual 151, 3) := by decide +kernel
theorem dX7_line_12 : decode cX7_line 12 = .ok (.if_icmp .ge 13, 3) := by decide +kernel
theorem dX7_line_15 : decode cX7_line 15 = .ok (.iload_n 2, 1) := by decide +kernel
theorem dX7_line_16 : decode cX7_line 16 = .ok (.ifCond .lt 9, 3) := by decide +kernel
theorem dX7_line_19 : decode cX7_line 19 = .ok (.iload_n 2, 1) := by decide +kernel
theorem dX7_line_20 : decode cX7_line 20 = .ok (.bipush 7, 2) := by decide +kernel
theorem dX7_line_22 : decode cX7_line 22 = .ok (.if_icmp .le 13, 3) := by decide +kernel
theorem dX7_line_25 : decode cX7_line 25 = .ok (.new 94, 3) := by decide +kernel
theorem dX7_line_28 : decode cX7_line 28 = .ok (.dup, 1) := by decide +kernel
theorem dX7_line_29 : decode cX7_line 29 = .ok (.ldc 210, 2) := by decide +kernel
theorem dX7_line_31 : decode cX7_line 31 = .ok (.invokespecial 98, 3) := by decide +kernel
theorem dX7_line_34 : decode cX7_line 34 = .ok (.athrow, 1) := by decide +kernel
theorem dX7_line_35 : decode cX7_line 35 = .ok (.iload_n 2, 1) := by decide +kernel
theorem dX7_line_36 : decode cX7_line 36 = .ok (.tableswitch 109 0 7 #[48, 57, 109, 109, 109, 66, 75, 92], 48) := by decide +kernel
theorem dX7_line_84 : decode cX7_line 84 = .ok (.aload_n 0, 1) := by decide +kernel
theorem dX7_line_85 : decode cX7_line 85 = .ok (.getfield 44, 3) := by decide +kernel
theorem dX7_line_88 : decode cX7_line 88 = .ok (.iload_n 1, 1) := by decide +kernel
theorem dX7_line_89 : decode cX7_line 89 = .ok (.invokevirtual 212, 3) := by decide +kernel
theorem dX7_line_92 : decode cX7_line 92 = .ok (.ireturn, 1) := by decide +kernel
theorem dX7_line_93 : decode cX7_line 93 = .ok (.aload_n 0, 1) := by decide +kernel
theorem dX7_line_94 : decode cX7_line 94 = .ok (.getfield 44, 3) := by decide +kernel
theorem dX7_line_97 : decode cX7_line 97 = .ok (.iload_n 1, 1) := by decide +kernel
theorem dX7_line_98 : decode cX7_line 98 = .ok (.invokevirtual 215, 3) := by decide +kernel
theorem dX7_line_101 : decode cX7_line 101 = .ok (.ireturn, 1) := by decide +kernel
theorem dX7_line_102 : decode cX7_line 102 = .ok (.aload_n 0, 1) := by decide +kernel
theorem dX7_line_103 : decode cX7_line 103 = .ok (.getfield 44, 3) := by decide +kernel
theorem dX7_line_106 : decode cX7_line 106 = .ok (.iload_n 1, 1) := by decide +kernel
theorem dX7_line_107 : decode cX7_line 107 = .ok (.invokevirtual 218, 3) := by decide +kernel
theorem dX7_line_110 : decode cX7_line 110 = .ok (.ireturn, 1) := by decide +kernel
theorem dX7_line_111 : decode cX7_line 111 = .ok (.aload_n 0, 1) := by decide +kernel
theorem dX7_line_112 : decode cX7_line 112 = .ok (.getfield 44, 3) := by decide +kernel
theorem dX7_line_115 : decode cX7_line 115 = .ok (.iload_n 1, 1) := by decide +kernel
theorem dX7_line_116 : decode cX7_line 116 = .ok (.invokevirtual 221, 3) := by decide +kernel
theorem dX7_line_119 : decode cX7_line 119 = .ok (.ifCond .eq 7, 3) := by decide +kernel
theorem dX7_line_122 : decode cX7_line 122 = .ok (.iconst 1, 1) := by decide +kernel
theorem dX7_line_123 : decode cX7_line 123 = .ok (.goto 4, 3) := by decide +kernel
theorem dX7_line_126 : decode cX7_line 126 = .ok (.iconst 0, 1) := by decide +kernel
theorem dX7_line_127 : decode cX7_line 127 = .ok (.ireturn, 1) := by decide +kernel
theorem dX7_line_128 : decode cX7_line 128 = .ok (.aload_n 0, 1) := by decide +kernel
theorem dX7_line_129 : decode cX7_line 129 = .ok (.getfield 44, 3) := by decide +kernel
theorem dX7_line_132 : decode cX7_line 132 = .ok (.iload_n 1, 1) := by decide +kernel
theorem dX7_line_133 : decode cX7_line 133 = .ok (.invokevirtual 224, 3) := by decide +kernel
theorem dX7_line_136 : decode cX7_line 136 = .ok (.ifCond .eq 7, 3) := by decide +kernel
theorem dX7_line_139 : decode cX7_line 139 = .ok (.iconst 1, 1) := by decide +kernel
theorem dX7_line_140 : decode cX7_line 140 = .ok (.goto 4, 3) := by decide +kernel
theorem dX7_line_143 : decode cX7_line 143 = .ok (.iconst 0, 1) := by decide +kernel
theorem dX7_line_144 : decode cX7_line 144 = .ok (.ireturn, 1) := by decide +kernel
theorem dX7_line_145 : decode cX7_line 145 = .ok (.aload_n 0, 1) := by decide +kernel
theorem dX7_line_146 : decode cX7_line 146 = .ok (.getfield 44, 3) := by decide +kernel
theorem dX7_line_149 : decode cX7_line 149 = .ok (.iload_n 1, 1) := by decide +kernel
theorem dX7_line_150 : decode cX7_line 150 = .ok (.iload_n 2, 1) := by decide +kernel
theorem dX7_line_151 : decode cX7_line 151 = .ok (.iconst 2, 1) := by decide +kernel
theorem dX7_line_152 : decode cX7_line 152 = .ok (.isub, 1) := by decide +kernel
theorem dX7_line_153 : decode cX7_line 153 = .ok (.invokevirtual 227, 3) := by decide +kernel
theorem dX7_line_156 : decode cX7_line 156 = .ok (.ireturn, 1) := by decide +kernel
theorem dX7_box_0 : decode cX7_box 0 = .ok (.iload_n 1, 1) := by decide +kernel
theorem dX7_box_1 : decode cX7_box 1 = .ok (.ifCond .lt 23, 3) := by decide +kernel
theorem dX7_box_4 : decode cX7_box 4 = .ok (.iload_n 1, 1) := by decide +kernel
theorem dX7_box_5 : decode cX7_box 5 = .ok (.aload_n 0, 1) := by decide +kernel
theorem dX7_box_6 : decode cX7_box 6 = .ok (.getfield 44, 3) := by decide +kernel
theorem dX7_box_9 : decode cX7_box 9 = .ok (.invokevirtual 201, 3) := by decide +kernel
theorem dX7_box_12 : decode cX7_box 12 = .ok (.if_icmp .ge 12, 3) := by decide +kernel
theorem dX7_box_15 : decode cX7_box 15 = .ok (.iload_n 2, 1) := by decide +kernel
theorem dX7_box_16 : decode cX7_box 16 = .ok (.ifCond .lt 8, 3) := by decide +kernel
theorem dX7_box_19 : decode cX7_box 19 = .ok (.iload_n 2, 1) := by decide +kernel
theorem dX7_box_20 : decode cX7_box 20 = .ok (.iconst 3, 1) := by decide +kernel
theorem dX7_box_21 : decode cX7_box 21 = .ok (.if_icmp .le 13, 3) := by decide +kernel
theorem dX7_box_24 : decode cX7_box 24 = .ok (.new 94, 3) := by decide +kernel
theorem dX7_box_27 : decode cX7_box 27 = .ok (.dup, 1) := by decide +kernel
theorem dX7_box_28 : decode cX7_box 28 = .ok (.ldc 231, 2) := by decide +kernel
theorem dX7_box_30 : decode cX7_box 30 = .ok (.invokespecial 98, 3) := by decide +kernel
theorem dX7_box_33 : decode cX7_box 33 = .ok (.athrow, 1) := by decide +kernel
theorem dX7_box_34 : decode cX7_box 34 = .ok (.iload_n 2, 1) := by decide +kernel
theorem dX7_box_35 : decode cX7_box 35 = .ok (.tableswitch 52 0 2 #[25, 34, 43], 25) := by decide +kernel
theorem dX7_box_60 : decode cX7_box 60 = .ok (.aload_n 0, 1) := by decide +kernel
theorem dX7_box_61 : decode cX7_box 61 = .ok (.getfield 44, 3) := by decide +kernel
theorem dX7_box_64 : decode cX7_box 64 = .ok (.iload_n 1, 1) := by decide +kernel
theorem dX7_box_65 : decode cX7_box 65 = .ok (.invokevirtual 233, 3) := by decide +kernel
theorem dX7_box_68 : decode cX7_box 68 = .ok (.ireturn, 1) := by decide +kernel
theorem dX7_box_69 : decode cX7_box 69 = .ok (.aload_n 0, 1) := by decide +kernel
theorem dX7_box_70 : decode cX7_box 70 = .ok (.getfield 44, 3) := by decide +kernel
theorem dX7_box_73 : decode cX7_box 73 = .ok (.iload_n 1, 1) := by decide +kernel
theorem dX7_box_74 : decode cX7_box 74 = .ok (.invokevirtual 236, 3) := by decide +kernel
theorem dX7_box_77 : decode cX7_box 77 = .ok (.ireturn, 1) := by decide +kernel
theorem dX7_box_78 : decode cX7_box 78 = .ok (.aload_n 0, 1) := by decide +kernel
theorem dX7_box_79 : decode cX7_box 79 = .ok (.getfield 44, 3) := by decide +kernel
theorem dX7_box_82 : decode cX7_box 82 = .ok (.iload_n 1, 1) := by decide +kernel
theorem dX7_box_83 : decode cX7_box 83 = .ok (.invokevirtual 239, 3) := by decide +kernel
theorem dX7_box_86 : decode cX7_box 86 = .ok (.ireturn, 1) := by decide +kernel
theorem dX7_box_87 : decode cX7_box 87 = .ok (.aload_n 0, 1) := by decide +kernel
theorem dX7_box_88 : decode cX7_box 88 = .ok (.getfield 44, 3) := by decide +kernel
theorem dX7_box_91 : decode cX7_box 91 = .ok (.iload_n 1, 1) := by decide +kernel
theorem dX7_box_92 : decode cX7_box 92 = .ok (.invokevirtual 242, 3) := by decide +kernel
theorem dX7_box_95 : decode cX7_box 95 = .ok (.ifCond .eq 7, 3) := by decide +kernel
theorem dX7_box_98 : decode cX7_box 98 = .ok (.iconst 1, 1) := by decide +kernel
theorem dX7_box_99 : decode cX7_box 99 = .ok (.goto 4, 3) := by decide +kernel
theorem dX7_box_102 : decode cX7_box 102 = .ok (.iconst 0, 1) := by decide +kernel
theorem dX7_box_103 : decode cX7_box 103 = .ok (.ireturn, 1) := by decide +kernel
theorem dX7_fails_0 : decode cX7_fails 0 = .ok (.iload_n 1, 1) := by decide +kernel
theorem dX7_fails_1 : decode cX7_fails 1 = .ok (.ifCond .lt 14, 3) := by decide +kernel
theorem dX7_fails_4 : decode cX7_fails 4 = .ok (.iload_n 1, 1) := by decide +kernel
theorem dX7_fails_5 : decode cX7_fails 5 = .ok (.aload_n 0, 1) := by decide +kernel
theorem dX7_fails_6 : decode cX7_fails 6 = .ok (.getfield 44, 3) := by decide +kernel
theorem dX7_fails_9 : decode cX7_fails 9 = .ok (.invokevirtual 151, 3) := by decide +kernel
theorem dX7_fails_12 : decode cX7_fails 12 = .ok (.if_icmp .lt 13, 3) := by decide +kernel
theorem dX7_fails_15 : decode cX7_fails 15 = .ok (.new 94, 3) := by decide +kernel
theorem dX7_fails_18 : decode cX7_fails 18 = .ok (.dup, 1) := by decide +kernel
theorem dX7_fails_19 : decode cX7_fails 19 = .ok (.ldc 245, 2) := by decide +kernel
theorem dX7_fails_21 : decode cX7_fails 21 = .ok (.invokespecial 98, 3) := by decide +kernel
theorem dX7_fails_24 : decode cX7_fails 24 = .ok (.athrow, 1) := by decide +kernel
theorem dX7_fails_25 : decode cX7_fails 25 = .ok (.aload_n 0, 1) := by decide +kernel
theorem dX7_fails_26 : decode cX7_fails 26 = .ok (.getfield 44, 3) := by decide +kernel
theorem dX7_fails_29 : decode cX7_fails 29 = .ok (.iload_n 1, 1) := by decide +kernel
theorem dX7_fails_30 : decode cX7_fails 30 = .ok (.invokevirtual 247, 3) := by decide +kernel
theorem dX7_fails_33 : decode cX7_fails 33 = .ok (.ireturn, 1) := by decide +kernel
theorem dX7_hint_0 : decode cX7_hint 0 = .ok (.aload_n 0, 1) := by decide +kernel
theorem dX7_hint_1 : decode cX7_hint 1 = .ok (.getfield 10, 3) := by decide +kernel
theorem dX7_hint_4 : decode cX7_hint 4 = .ok (.iload_n 1, 1) := by decide +kernel
theorem dX7_hint_5 : decode cX7_hint 5 = .ok (.invokevirtual 105, 3) := by decide +kernel
theorem dX7_hint_8 : decode cX7_hint 8 = .ok (.ifCond .eq 12, 3) := by decide +kernel
theorem dX7_hint_11 : decode cX7_hint 11 = .ok (.iload_n 2, 1) := by decide +kernel
theorem dX7_hint_12 : decode cX7_hint 12 = .ok (.ifCond .lt 8, 3) := by decide +kernel
theorem dX7_hint_15 : decode cX7_hint 15 = .ok (.iload_n 2, 1) := by decide +kernel
theorem dX7_hint_16 : decode cX7_hint 16 = .ok (.iconst 3, 1) := by decide +kernel
theorem dX7_hint_17 : decode cX7_hint 17 = .ok (.if_icmp .le 13, 3) := by decide +kernel
theorem dX7_hint_20 : decode cX7_hint 20 = .ok (.new 94, 3) := by decide +kernel
theorem dX7_hint_23 : decode cX7_hint 23 = .ok (.dup, 1) := by decide +kernel
theorem dX7_hint_24 : decode cX7_hint 24 = .ok (.ldc 109, 2) := by decide +kernel
theorem dX7_hint_26 : decode cX7_hint 26 = .ok (.invokespecial 98, 3) := by decide +kernel
theorem dX7_hint_29 : decode cX7_hint 29 = .ok (.athrow, 1) := by decide +kernel
theorem dX7_hint_30 : decode cX7_hint 30 = .ok (.iconst 0, 1) := by decide +kernel
theorem dX7_hint_31 : decode cX7_hint 31 = .ok (.istore_n 3, 1) := by decide +kernel
theorem dX7_hint_32 : decode cX7_hint 32 = .ok (.iload_n 3, 1) := by decide +kernel
theorem dX7_hint_33 : decode cX7_hint 33 = .ok (.bipush 13, 2) := by decide +kernel
theorem dX7_hint_35 : decode cX7_hint 35 = .ok (.if_icmp .ge 30, 3) := by decide +kernel
theorem dX7_hint_38 : decode cX7_hint 38 = .ok (.aload_n 0, 1) := by decide +kernel
theorem dX7_hint_39 : decode cX7_hint 39 = .ok (.getfield 53, 3) := by decide +kernel
theorem dX7_hint_42 : decode cX7_hint 42 = .ok (.iload_n 3, 1) := by decide +kernel
theorem dX7_hint_43 : decode cX7_hint 43 = .ok (.iload_n 1, 1) := by decide +kernel
theorem dX7_hint_44 : decode cX7_hint 44 = .ok (.invokevirtual 250, 3) := by decide +kernel
theorem dX7_hint_47 : decode cX7_hint 47 = .ok (.ifCond .eq 12, 3) := by decide +kernel
theorem dX7_hint_50 : decode cX7_hint 50 = .ok (.aload_n 0, 1) := by decide +kernel
theorem dX7_hint_51 : decode cX7_hint 51 = .ok (.getfield 53, 3) := by decide +kernel
theorem dX7_hint_54 : decode cX7_hint 54 = .ok (.iload_n 2, 1) := by decide +kernel
theorem dX7_hint_55 : decode cX7_hint 55 = .ok (.invokevirtual 254, 3) := by decide +kernel
theorem dX7_hint_58 : decode cX7_hint 58 = .ok (.ireturn, 1) := by decide +kernel
theorem dX7_hint_59 : decode cX7_hint 59 = .ok (.iinc 3 1, 3) := by decide +kernel
theorem dX7_hint_62 : decode cX7_hint 62 = .ok (.goto (-30), 3) := by decide +kernel
theorem dX7_hint_65 : decode cX7_hint 65 = .ok (.iconst (-1), 1) := by decide +kernel
theorem dX7_hint_66 : decode cX7_hint 66 = .ok (.ireturn, 1) := by decide +kernel
theorem dX7_end_0 : decode cX7_end 0 = .ok (.aload_n 0, 1) := by decide +kernel
theorem dX7_end_1 : decode cX7_end 1 = .ok (.getfield 44, 3) := by decide +kernel
theorem dX7_end_4 : decode cX7_end 4 = .ok (.invokevirtual 151, 3) := by decide +kernel
theorem dX7_end_7 : decode cX7_end 7 = .ok (.iconst 1, 1) := by decide +kernel
theorem dX7_end_8 : decode cX7_end 8 = .ok (.isub, 1) := by decide +kernel
theorem dX7_end_9 : decode cX7_end 9 = .ok (.istore_n 1, 1) := by decide +kernel
theorem dX7_end_10 : decode cX7_end 10 = .ok (.iload_n 1, 1) := by decide +kernel
theorem dX7_end_11 : decode cX7_end 11 = .ok (.ifCond .lt 24, 3) := by decide +kernel
theorem dX7_end_14 : decode cX7_end 14 = .ok (.aload_n 0, 1) := by decide +kernel
theorem dX7_end_15 : decode cX7_end 15 = .ok (.getfield 44, 3) := by decide +kernel
theorem dX7_end_18 : decode cX7_end 18 = .ok (.invokevirtual 166, 3) := by decide +kernel
theorem dX7_end_21 : decode cX7_end 21 = .ok (.ifCond .gt 14, 3) := by decide +kernel
theorem dX7_end_24 : decode cX7_end 24 = .ok (.aload_n 0, 1) := by decide +kernel
theorem dX7_end_25 : decode cX7_end 25 = .ok (.getfield 44, 3) := by decide +kernel
theorem dX7_end_28 : decode cX7_end 28 = .ok (.iload_n 1, 1) := by decide +kernel
theorem dX7_end_29 : decode cX7_end 29 = .ok (.invokevirtual 218, 3) := by decide +kernel
theorem dX7_end_32 : decode cX7_end 32 = .ok (.ifCond .lt 14, 3) := by decide +kernel
theorem dX7_end_35 : decode cX7_end 35 = .ok (.new 61, 3) := by decide +kernel
theorem dX7_end_38 : decode cX7_end 38 = .ok (.dup, 1) := by decide +kernel
theorem dX7_end_39 : decode cX7_end 39 = .ok (.ldc_w 257, 3) := by decide +kernel
theorem dX7_end_42 : decode cX7_end 42 = .ok (.invokespecial 65, 3) := by decide +kernel
theorem dX7_end_45 : decode cX7_end 45 = .ok (.athrow, 1) := by decide +kernel
theorem dX7_end_46 : decode cX7_end 46 = .ok (.aload_n 0, 1) := by decide +kernel
theorem dX7_end_47 : decode cX7_end 47 = .ok (.getfield 35, 3) := by decide +kernel
theorem dX7_end_50 : decode cX7_end 50 = .ok (.invokevirtual 204, 3) := by decide +kernel
theorem dX7_end_53 : decode cX7_end 53 = .ok (.bipush 16, 2) := by decide +kernel
theorem dX7_end_55 : decode cX7_end 55 = .ok (.if_icmp .lt 14, 3) := by decide +kernel
theorem dX7_end_58 : decode cX7_end 58 = .ok (.new 61, 3) := by decide +kernel
theorem dX7_end_61 : decode cX7_end 61 = .ok (.dup, 1) := by decide +kernel
theorem dX7_end_62 : decode cX7_end 62 = .ok (.ldc_w 259, 3) := by decide +kernel
theorem dX7_end_65 : decode cX7_end 65 = .ok (.invokespecial 65, 3) := by decide +kernel
theorem dX7_end_68 : decode cX7_end 68 = .ok (.athrow, 1) := by decide +kernel
theorem dX7_end_69 : decode cX7_end 69 = .ok (.aload_n 0, 1) := by decide +kernel
theorem dX7_end_70 : decode cX7_end 70 = .ok (.getfield 44, 3) := by decide +kernel
theorem dX7_end_73 : decode cX7_end 73 = .ok (.invokevirtual 157, 3) := by decide +kernel
theorem dX7_end_76 : decode cX7_end 76 = .ok (.istore_n 2, 1) := by decide +kernel
theorem dX7_end_77 : decode cX7_end 77 = .ok (.iload_n 2, 1) := by decide +kernel
theorem dX7_end_78 : decode cX7_end 78 = .ok (.ifCond .le 14, 3) := by decide +kernel
theorem dX7_end_81 : decode cX7_end 81 = .ok (.aload_n 0, 1) := by decide +kernel
theorem dX7_end_82 : decode cX7_end 82 = .ok (.getfield 44, 3) := by decide +kernel
theorem dX7_end_85 : decode cX7_end 85 = .ok (.iconst 0, 1) := by decide +kernel
theorem dX7_end_86 : decode cX7_end 86 = .ok (.invokevirtual 212, 3) := by decide +kernel
theorem dX7_end_89 : decode cX7_end 89 = .ok (.goto 4, 3) := by decide +kernel
theorem dX7_end_92 : decode cX7_end 92 = .ok (.iconst (-1), 1) := by decide +kernel
theorem dX7_end_93 : decode cX7_end 93 = .ok (.istore_n 3, 1) := by decide +kernel
theorem dX7_end_94 : decode cX7_end 94 = .ok (.iload_n 2, 1) := by decide +kernel
theorem dX7_end_95 : decode cX7_end 95 = .ok (.iconst 1, 1) := by decide +kernel
theorem dX7_end_96 : decode cX7_end 96 = .ok (.if_icmp .le 14, 3) := by decide +kernel
theorem dX7_end_99 : decode cX7_end 99 = .ok (.aload_n 0, 1) := by decide +kernel
theorem dX7_end_100 : decode cX7_end 100 = .ok (.getfield 44, 3) := by decide +kernel
theorem dX7_end_103 : decode cX7_end 103 = .ok (.iconst 1, 1) := by decide +kernel
theorem dX7_end_104 : decode cX7_end 104 = .ok (.invokevirtual 212, 3) := by decide +kernel
theorem dX7_end_107 : decode cX7_end 107 = .ok (.goto 4, 3) := by decide +kernel
theorem dX7_end_110 : decode cX7_end 110 = .ok (.iconst (-1), 1) := by decide +kernel
theorem dX7_end_111 : decode cX7_end 111 = .ok (.istore 4, 2) := by decide +kernel
theorem dX7_end_113 : decode cX7_end 113 = .ok (.aload_n 0, 1) := by decide +kernel
theorem dX7_end_114 : decode cX7_end 114 = .ok (.getfield 35, 3) := by decide +kernel
theorem dX7_end_117 : decode cX7_end 117 = .ok (.aload_n 0, 1) := by decide +kernel
theorem dX7_end_118 : decode cX7_end 118 = .ok (.getfield 44, 3) := by decide +kernel
theorem dX7_end_121 : decode cX7_end 121 = .ok (.iload_n 1, 1) := by decide +kernel
theorem dX7_end_122 : decode cX7_end 122 = .ok (.invokevirtual 212, 3) := by decide +kernel
theorem dX7_end_125 : decode cX7_end 125 = .ok (.iload_n 3, 1) := by decide +kernel
theorem dX7_end_126 : decode cX7_end 126 = .ok (.iload 4, 2) := by decide +kernel
theorem dX7_end_128 : decode cX7_end 128 = .ok (.iload_n 1, 1) := by decide +kernel
theorem dX7_end_129 : decode cX7_end 129 = .ok (.iconst 1, 1) := by decide +kernel
theorem dX7_end_130 : decode cX7_end 130 = .ok (.iadd, 1) := by decide +kernel
theorem dX7_end_131 : decode cX7_end 131 = .ok (.aload_n 0, 1) := by decide +kernel
theorem dX7_end_132 : decode cX7_end 132 = .ok (.getfield 44, 3) := by decide +kernel
theorem dX7_end_135 : decode cX7_end 135 = .ok (.invokevirtual 205, 3) := by decide +kernel
theorem dX7_end_138 : decode cX7_end 138 = .ok (.invokevirtual 261, 3) := by decide +kernel
theorem dX7_end_141 : decode cX7_end 141 = .ok (.istore 5, 2) := by decide +kernel
theorem dX7_end_143 : decode cX7_end 143 = .ok (.aload_n 0, 1) := by decide +kernel
theorem dX7_end_144 : decode cX7_end 144 = .ok (.getfield 44, 3) := by decide +kernel
theorem dX7_end_147 : decode cX7_end 147 = .ok (.invokevirtual 154, 3) := by decide +kernel
theorem dX7_end_150 : decode cX7_end 150 = .ok (.iload 5, 2) := by decide +kernel
theorem dX7_end_152 : decode cX7_end 152 = .ok (.ireturn, 1) := by decide +kernel
theorem dX7_theorem_0 : decode cX7_theorem 0 = .ok (.aload_n 0, 1) := by decide +kernel
theorem dX7_theorem_1 : decode cX7_theorem 1 = .ok (.getfield 35, 3) := by decide +kernel
theorem dX7_theorem_4 : decode cX7_theorem 4 = .ok (.iload_n 1, 1) := by decide +kernel
theorem dX7_theorem_5 : decode cX7_theorem 5 = .ok (.invokevirtual 262, 3) := by decide +kernel
theorem dX7_theorem_8 : decode cX7_theorem 8 = .ok (.ifCond .eq 13, 3) := by decide +kernel
theorem dX7_theorem_11 : decode cX7_theorem 11 = .ok (.iload_n 2, 1) := by decide +kernel
theorem dX7_theorem_12 : decode cX7_theorem 12 = .ok (.ifCond .lt 9, 3) := by decide +kernel
theorem dX7_theorem_15 : decode cX7_theorem 15 = .ok (.iload_n 2, 1) := by decide +kernel
theorem dX7_theorem_16 : decode cX7_theorem 16 = .ok (.bipush 6, 2) := by decide +kernel
theorem dX7_theorem_18 : decode cX7_theorem 18 = .ok (.if_icmp .le 14, 3) := by decide +kernel
theorem dX7_theorem_21 : decode cX7_theorem 21 = .ok (.new 94, 3) := by decide +kernel
theorem dX7_theorem_24 : decode cX7_theorem 24 = .ok (.dup, 1) := by decide +kernel
theorem dX7_theorem_25 : decode cX7_theorem 25 = .ok (.ldc_w 263, 3) := by decide +kernel
theorem dX7_theorem_28 : decode cX7_theorem 28 = .ok (.invokespecial 98, 3) := by decide +kernel
theorem dX7_theorem_31 : decode cX7_theorem 31 = .ok (.athrow, 1) := by decide +kernel
theorem dX7_theorem_32 : decode cX7_theorem 32 = .ok (.iload_n 2, 1) := by decide +kernel
theorem dX7_theorem_33 : decode cX7_theorem 33 = .ok (.tableswitch 93 0 5 #[39, 48, 57, 66, 75, 84], 39) := by decide +kernel
theorem dX7_theorem_72 : decode cX7_theorem 72 = .ok (.aload_n 0, 1) := by decide +kernel
theorem dX7_theorem_73 : decode cX7_theorem 73 = .ok (.getfield 35, 3) := by decide +kernel
theorem dX7_theorem_76 : decode cX7_theorem 76 = .ok (.iload_n 1, 1) := by decide +kernel
theorem dX7_theorem_77 : decode cX7_theorem 77 = .ok (.invokevirtual 265, 3) := by decide +kernel
theorem dX7_theorem_80 : decode cX7_theorem 80 = .ok (.ireturn, 1) := by decide +kernel
theorem dX7_theorem_81 : decode cX7_theorem 81 = .ok (.aload_n 0, 1) := by decide +kernel
theorem dX7_theorem_82 : decode cX7_theorem 82 = .ok (.getfield 35, 3) := by decide +kernel
theorem dX7_theorem_85 : decode cX7_theorem 85 = .ok (.iload_n 1, 1) := by decide +kernel
theorem dX7_theorem_86 : decode cX7_theorem 86 = .ok (.invokevirtual 268, 3) := by decide +kernel
theorem dX7_theorem_89 : decode cX7_theorem 89 = .ok (.ireturn, 1) := by decide +kernel
theorem dX7_theorem_90 : decode cX7_theorem 90 = .ok (.aload_n 0, 1) := by decide +kernel
theorem dX7_theorem_91 : decode cX7_theorem 91 = .ok (.getfield 35, 3) := by decide +kernel
theorem dX7_theorem_94 : decode cX7_theorem 94 = .ok (.iload_n 1, 1) := by decide +kernel
theorem dX7_theorem_95 : decode cX7_theorem 95 = .ok (.invokevirtual 271, 3) := by decide +kernel
theorem dX7_theorem_98 : decode cX7_theorem 98 = .ok (.ireturn, 1) := by decide +kernel
theorem dX7_theorem_99 : decode cX7_theorem 99 = .ok (.aload_n 0, 1) := by decide +kernel
theorem dX7_theorem_100 : decode cX7_theorem 100 = .ok (.getfield 35, 3) := by decide +kernel
theorem dX7_theorem_103 : decode cX7_theorem 103 = .ok (.iload_n 1, 1) := by decide +kernel
theorem dX7_theorem_104 : decode cX7_theorem 104 = .ok (.invokevirtual 274, 3) := by decide +kernel
theorem dX7_theorem_107 : decode cX7_theorem 107 = .ok (.ireturn, 1) := by decide +kernel
theorem dX7_theorem_108 : decode cX7_theorem 108 = .ok (.aload_n 0, 1) := by decide +kernel
theorem dX7_theorem_109 : decode cX7_theorem 109 = .ok (.getfield 35, 3) := by decide +kernel
theorem dX7_theorem_112 : decode cX7_theorem 112 = .ok (.iload_n 1, 1) := by decide +kernel
theorem dX7_theorem_113 : decode cX7_theorem 113 = .ok (.invokevirtual 277, 3) := by decide +kernel
theorem dX7_theorem_116 : decode cX7_theorem 116 = .ok (.ireturn, 1) := by decide +kernel
theorem dX7_theorem_117 : decode cX7_theorem 117 = .ok (.aload_n 0, 1) := by decide +kernel
theorem dX7_theorem_118 : decode cX7_theorem 118 = .ok (.getfield 35, 3) := by decide +kernel
theorem dX7_theorem_121 : decode cX7_theorem 121 = .ok (.iload_n 1, 1) := by decide +kernel
theorem dX7_theorem_122 : decode cX7_theorem 122 = .ok (.invokevirtual 280, 3) := by decide +kernel
theorem dX7_theorem_125 : decode cX7_theorem 125 = .ok (.ireturn, 1) := by decide +kernel
theorem dX7_theorem_126 : decode cX7_theorem 126 = .ok (.aload_n 0, 1) := by decide +kernel
theorem dX7_theorem_127 : decode cX7_theorem 127 = .ok (.getfield 35, 3) := by decide +kernel
theorem dX7_theorem_130 : decode cX7_theorem 130 = .ok (.iload_n 1, 1) := by decide +kernel
theorem dX7_theorem_131 : decode cX7_theorem 131 = .ok (.invokevirtual 283, 3) := by decide +kernel
theorem dX7_theorem_134 : decode cX7_theorem 134 = .ok (.ireturn, 1) := by decide +kernel
theorem dX7_instance_0 : decode cX7_instance 0 = .ok (.aload_n 0, 1) := by decide +kernel
theorem dX7_instance_1 : decode cX7_instance 1 = .ok (.getfield 35, 3) := by decide +kernel
theorem dX7_instance_4 : decode cX7_instance 4 = .ok (.iload_n 1, 1) := by decide +kernel
theorem dX7_instance_5 : decode cX7_instance 5 = .ok (.invokevirtual 262, 3) := by decide +kernel
theorem dX7_instance_8 : decode cX7_instance 8 = .ok (.ifCond .eq 24, 3) := by decide +kernel
theorem dX7_instance_11 : decode cX7_instance 11 = .ok (.aload_n 0, 1) := by decide +kernel
theorem dX7_instance_12 : decode cX7_instance 12 = .ok (.getfield 10, 3) := by decide +kernel
theorem dX7_instance_15 : decode cX7_instance 15 = .ok (.iload_n 2, 1) := by decide +kernel
theorem dX7_instance_16 : decode cX7_instance 16 = .ok (.invokevirtual 105, 3) := by decide +kernel
theorem dX7_instance_19 : decode cX7_instance 19 = .ok (.ifCond .eq 13, 3) := by decide +kernel
theorem dX7_instance_22 : decode cX7_instance 22 = .ok (.iload_n 3, 1) := by decide +kernel
theorem dX7_instance_23 : decode cX7_instance 23 = .ok (.ifCond .lt 9, 3) := by decide +kernel
theorem dX7_instance_26 : decode cX7_instance 26 = .ok (.iload_n 3, 1) := by decide +kernel
theorem dX7_instance_27 : decode cX7_instance 27 = .ok (.bipush 8, 2) := by decide +kernel
theorem dX7_instance_29 : decode cX7_instance 29 = .ok (.if_icmp .lt 14, 3) := by decide +kernel
theorem dX7_instance_32 : decode cX7_instance 32 = .ok (.new 94, 3) := by decide +kernel
theorem dX7_instance_35 : decode cX7_instance 35 = .ok (.dup, 1) := by decide +kernel
theorem dX7_instance_36 : decode cX7_instance 36 = .ok (.ldc_w 286, 3) := by decide +kernel
theorem dX7_instance_39 : decode cX7_instance 39 = .ok (.invokespecial 98, 3) := by decide +kernel
theorem dX7_instance_42 : decode cX7_instance 42 = .ok (.athrow, 1) := by decide +kernel
theorem dX7_instance_43 : decode cX7_instance 43 = .ok (.aload_n 0, 1) := by decide +kernel
theorem dX7_instance_44 : decode cX7_instance 44 = .ok (.getfield 35, 3) := by decide +kernel
theorem dX7_instance_47 : decode cX7_instance 47 = .ok (.iload_n 1, 1) := by decide +kernel
theorem dX7_instance_48 : decode cX7_instance 48 = .ok (.iload_n 2, 1) := by decide +kernel
theorem dX7_instance_49 : decode cX7_instance 49 = .ok (.invokevirtual 288, 3) := by decide +kernel
theorem dX7_instance_52 : decode cX7_instance 52 = .ok (.ifCond .eq 14, 3) := by decide +kernel
theorem dX7_instance_55 : decode cX7_instance 55 = .ok (.aload_n 0, 1) := by decide +kernel
theorem dX7_instance_56 : decode cX7_instance 56 = .ok (.getfield 35, 3) := by decide +kernel
theorem dX7_instance_59 : decode cX7_instance 59 = .ok (.iload_n 3, 1) := by decide +kernel
theorem dX7_instance_60 : decode cX7_instance 60 = .ok (.invokevirtual 291, 3) := by decide +kernel
theorem dX7_instance_63 : decode cX7_instance 63 = .ok (.goto 4, 3) := by decide +kernel
theorem dX7_instance_66 : decode cX7_instance 66 = .ok (.iconst (-1), 1) := by decide +kernel
theorem dX7_instance_67 : decode cX7_instance 67 = .ok (.ireturn, 1) := by decide +kernel
theorem dX7_thrift_0 : decode cX7_thrift 0 = .ok (.aload_n 0, 1) := by decide +kernel
theorem dX7_thrift_1 : decode cX7_thrift 1 = .ok (.getfield 35, 3) := by decide +kernel
theorem dX7_thrift_4 : decode cX7_thrift 4 = .ok (.invokevirtual 294, 3) := by decide +kernel
theorem dX7_thrift_7 : decode cX7_thrift 7 = .ok (.dreturn, 1) := by decide +kernel
theorem dX7_digest_0 : decode cX7_digest 0 = .ok (.ldc2_w 298, 3) := by decide +kernel
theorem dX7_digest_3 : decode cX7_digest 3 = .ok (.lstore_n 1, 1) := by decide +kernel
theorem dX7_digest_4 : decode cX7_digest 4 = .ok (.iconst 0, 1) := by decide +kernel
theorem dX7_digest_5 : decode cX7_digest 5 = .ok (.istore_n 3, 1) := by decide +kernel
theorem dX7_digest_6 : decode cX7_digest 6 = .ok (.iload_n 3, 1) := by decide +kernel
theorem dX7_digest_7 : decode cX7_digest 7 = .ok (.bipush 8, 2) := by decide +kernel
theorem dX7_digest_9 : decode cX7_digest 9 = .ok (.if_icmp .gt 22, 3) := by decide +kernel
theorem dX7_digest_12 : decode cX7_digest 12 = .ok (.lload_n 1, 1) := by decide +kernel
theorem dX7_digest_13 : decode cX7_digest 13 = .ok (.ldc2_w 300, 3) := by decide +kernel
theorem dX7_digest_16 : decode cX7_digest 16 = .ok (.lmul, 1) := by decide +kernel
theorem dX7_digest_17 : decode cX7_digest 17 = .ok (.aload_n 0, 1) := by decide +kernel
theorem dX7_digest_18 : decode cX7_digest 18 = .ok (.iload_n 3, 1) := by decide +kernel
theorem dX7_digest_19 : decode cX7_digest 19 = .ok (.invokevirtual 302, 3) := by decide +kernel
theorem dX7_digest_22 : decode cX7_digest 22 = .ok (.i2l, 1) := by decide +kernel
theorem dX7_digest_23 : decode cX7_digest 23 = .ok (.ladd, 1) := by decide +kernel
theorem dX7_digest_24 : decode cX7_digest 24 = .ok (.lstore_n 1, 1) := by decide +kernel
theorem dX7_digest_25 : decode cX7_digest 25 = .ok (.iinc 3 1, 3) := by decide +kernel
theorem dX7_digest_28 : decode cX7_digest 28 = .ok (.goto (-22), 3) := by decide +kernel
theorem dX7_digest_31 : decode cX7_digest 31 = .ok (.aload_n 0, 1) := by decide +kernel
theorem dX7_digest_32 : decode cX7_digest 32 = .ok (.lload_n 1, 1) := by decide +kernel
theorem dX7_digest_33 : decode cX7_digest 33 = .ok (.invokevirtual 305, 3) := by decide +kernel
theorem dX7_digest_36 : decode cX7_digest 36 = .ok (.lstore_n 1, 1) := by decide +kernel
theorem dX7_digest_37 : decode cX7_digest 37 = .ok (.aload_n 0, 1) := by decide +kernel
theorem dX7_digest_38 : decode cX7_digest 38 = .ok (.lload_n 1, 1) := by decide +kernel
theorem dX7_digest_39 : decode cX7_digest 39 = .ok (.invokevirtual 309, 3) := by decide +kernel
theorem dX7_digest_42 : decode cX7_digest 42 = .ok (.lstore_n 1, 1) := by decide +kernel
theorem dX7_digest_43 : decode cX7_digest 43 = .ok (.aload_n 0, 1) := by decide +kernel
theorem dX7_digest_44 : decode cX7_digest 44 = .ok (.lload_n 1, 1) := by decide +kernel
theorem dX7_digest_45 : decode cX7_digest 45 = .ok (.invokevirtual 312, 3) := by decide +kernel
theorem dX7_digest_48 : decode cX7_digest 48 = .ok (.lstore_n 1, 1) := by decide +kernel
theorem dX7_digest_49 : decode cX7_digest 49 = .ok (.iconst 0, 1) := by decide +kernel
theorem dX7_digest_50 : decode cX7_digest 50 = .ok (.istore_n 3, 1) := by decide +kernel
theorem dX7_digest_51 : decode cX7_digest 51 = .ok (.iload_n 3, 1) := by decide +kernel
theorem dX7_digest_52 : decode cX7_digest 52 = .ok (.aload_n 0, 1) := by decide +kernel
theorem dX7_digest_53 : decode cX7_digest 53 = .ok (.getfield 28, 3) := by decide +kernel
theorem dX7_digest_56 : decode cX7_digest 56 = .ok (.invokevirtual 145, 3) := by decide +kernel
theorem dX7_digest_59 : decode cX7_digest 59 = .ok (.if_icmp .ge 25, 3) := by decide +kernel
theorem dX7_digest_62 : decode cX7_digest 62 = .ok (.lload_n 1, 1) := by decide +kernel
theorem dX7_digest_63 : decode cX7_digest 63 = .ok (.ldc2_w 300, 3) := by decide +kernel
theorem dX7_digest_66 : decode cX7_digest 66 = .ok (.lmul, 1) := by decide +kernel
theorem dX7_digest_67 : decode cX7_digest 67 = .ok (.aload_n 0, 1) := by decide +kernel
theorem dX7_digest_68 : decode cX7_digest 68 = .ok (.getfield 28, 3) := by decide +kernel
theorem dX7_digest_71 : decode cX7_digest 71 = .ok (.iload_n 3, 1) := by decide +kernel
theorem dX7_digest_72 : decode cX7_digest 72 = .ok (.invokevirtual 148, 3) := by decide +kernel
theorem dX7_digest_75 : decode cX7_digest 75 = .ok (.i2l, 1) := by decide +kernel
theorem dX7_digest_76 : decode cX7_digest 76 = .ok (.ladd, 1) := by decide +kernel
theorem dX7_digest_77 : decode cX7_digest 77 = .ok (.lstore_n 1, 1) := by decide +kernel
theorem dX7_digest_78 : decode cX7_digest 78 = .ok (.iinc 3 1, 3) := by decide +kernel
theorem dX7_digest_81 : decode cX7_digest 81 = .ok (.goto (-30), 3) := by decide +kernel
theorem dX7_digest_84 : decode cX7_digest 84 = .ok (.lload_n 1, 1) := by decide +kernel
theorem dX7_digest_85 : decode cX7_digest 85 = .ok (.lreturn, 1) := by decide +kernel
theorem dX7_withFormulas_0 : decode cX7_withFormulas 0 = .ok (.lload_n 1, 1) := by decide +kernel
theorem dX7_withFormulas_1 : decode cX7_withFormulas 1 = .ok (.lstore_n 3, 1) := by decide +kernel
theorem dX7_withFormulas_2 : decode cX7_withFormulas 2 = .ok (.iconst 0, 1) := by decide +kernel
theorem dX7_withFormulas_3 : decode cX7_withFormulas 3 = .ok (.istore 5, 2) := by decide +kernel
theorem dX7_withFormulas_5 : decode cX7_withFormulas 5 = .ok (.iload 5, 2) := by decide +kernel
theorem dX7_withFormulas_7 : decode cX7_withFormulas 7 = .ok (.aload_n 0, 1) := by decide +kernel
theorem dX7_withFormulas_8 : decode cX7_withFormulas 8 = .ok (.getfield 10, 3) := by decide +kernel
theorem dX7_withFormulas_11 : decode cX7_withFormulas 11 = .ok (.invokevirtual 198, 3) := by decide +kernel
theorem dX7_withFormulas_14 : decode cX7_withFormulas 14 = .ok (.if_icmp .ge 60, 3) := by decide +kernel
theorem dX7_withFormulas_17 : decode cX7_withFormulas 17 = .ok (.lload_n 3, 1) := by decide +kernel
theorem dX7_withFormulas_18 : decode cX7_withFormulas 18 = .ok (.ldc2_w 300, 3) := by decide +kernel
theorem dX7_withFormulas_21 : decode cX7_withFormulas 21 = .ok (.lmul, 1) := by decide +kernel
theorem dX7_withFormulas_22 : decode cX7_withFormulas 22 = .ok (.aload_n 0, 1) := by decide +kernel
theorem dX7_withFormulas_23 : decode cX7_withFormulas 23 = .ok (.getfield 10, 3) := by decide +kernel
theorem dX7_withFormulas_26 : decode cX7_withFormulas 26 = .ok (.iload 5, 2) := by decide +kernel
theorem dX7_withFormulas_28 : decode cX7_withFormulas 28 = .ok (.invokevirtual 111, 3) := by decide +kernel
theorem dX7_withFormulas_31 : decode cX7_withFormulas 31 = .ok (.i2l, 1) := by decide +kernel
theorem dX7_withFormulas_32 : decode cX7_withFormulas 32 = .ok (.ladd, 1) := by decide +kernel
theorem dX7_withFormulas_33 : decode cX7_withFormulas 33 = .ok (.lstore_n 3, 1) := by decide +kernel
theorem dX7_withFormulas_34 : decode cX7_withFormulas 34 = .ok (.lload_n 3, 1) := by decide +kernel
theorem dX7_withFormulas_35 : decode cX7_withFormulas 35 = .ok (.ldc2_w 300, 3) := by decide +kernel
theorem dX7_withFormulas_38 : decode cX7_withFormulas 38 = .ok (.lmul, 1) := by decide +kernel
theorem dX7_withFormulas_39 : decode cX7_withFormulas 39 = .ok (.aload_n 0, 1) := by decide +kernel
theorem dX7_withFormulas_40 : decode cX7_withFormulas 40 = .ok (.getfield 10, 3) := by decide +kernel
theorem dX7_withFormulas_43 : decode cX7_withFormulas 43 = .ok (.iload 5, 2) := by decide +kernel
theorem dX7_withFormulas_45 : decode cX7_withFormulas 45 = .ok (.invokevirtual 115, 3) := by decide +kernel
theorem dX7_withFormulas_48 : decode cX7_withFormulas 48 = .ok (.i2l, 1) := by decide +kernel
theorem dX7_withFormulas_49 : decode cX7_withFormulas 49 = .ok (.ladd, 1) := by decide +kernel
theorem dX7_withFormulas_50 : decode cX7_withFormulas 50 = .ok (.lstore_n 3, 1) := by decide +kernel
theorem dX7_withFormulas_51 : decode cX7_withFormulas 51 = .ok (.lload_n 3, 1) := by decide +kernel
theorem dX7_withFormulas_52 : decode cX7_withFormulas 52 = .ok (.ldc2_w 300, 3) := by decide +kernel
theorem dX7_withFormulas_55 : decode cX7_withFormulas 55 = .ok (.lmul, 1) := by decide +kernel
theorem dX7_withFormulas_56 : decode cX7_withFormulas 56 = .ok (.aload_n 0, 1) := by decide +kernel
theorem dX7_withFormulas_57 : decode cX7_withFormulas 57 = .ok (.getfield 10, 3) := by decide +kernel
theorem dX7_withFormulas_60 : decode cX7_withFormulas 60 = .ok (.iload 5, 2) := by decide +kernel
theorem dX7_withFormulas_62 : decode cX7_withFormulas 62 = .ok (.invokevirtual 118, 3) := by decide +kernel
theorem dX7_withFormulas_65 : decode cX7_withFormulas 65 = .ok (.i2l, 1) := by decide +kernel
theorem dX7_withFormulas_66 : decode cX7_withFormulas 66 = .ok (.ladd, 1) := by decide +kernel
theorem dX7_withFormulas_67 : decode cX7_withFormulas 67 = .ok (.lstore_n 3, 1) := by decide +kernel
theorem dX7_withFormulas_68 : decode cX7_withFormulas 68 = .ok (.iinc 5 1, 3) := by decide +kernel
theorem dX7_withFormulas_71 : decode cX7_withFormulas 71 = .ok (.goto (-66), 3) := by decide +kernel
theorem dX7_withFormulas_74 : decode cX7_withFormulas 74 = .ok (.lload_n 3, 1) := by decide +kernel
theorem dX7_withFormulas_75 : decode cX7_withFormulas 75 = .ok (.lreturn, 1) := by decide +kernel
theorem dX7_withProof_0 : decode cX7_withProof 0 = .ok (.lload_n 1, 1) := by decide +kernel
theorem dX7_withProof_1 : decode cX7_withProof 1 = .ok (.lstore_n 3, 1) := by decide +kernel
theorem dX7_withProof_2 : decode cX7_withProof 2 = .ok (.iconst 0, 1) := by decide +kernel
theorem dX7_withProof_3 : decode cX7_withProof 3 = .ok (.istore 5, 2) := by decide +kernel
theorem dX7_withProof_5 : decode cX7_withProof 5 = .ok (.iload 5, 2) := by decide +kernel
theorem dX7_withProof_7 : decode cX7_withProof 7 = .ok (.aload_n 0, 1) := by decide +kernel
theorem dX7_withProof_8 : decode cX7_withProof 8 = .ok (.getfield 44, 3) := by decide +kernel
theorem dX7_withProof_11 : decode cX7_withProof 11 = .ok (.invokevirtual 151, 3) := by decide +kernel
theorem dX7_withProof_14 : decode cX7_withProof 14 = .ok (.if_icmp .ge 41, 3) := by decide +kernel
theorem dX7_withProof_17 : decode cX7_withProof 17 = .ok (.iconst 0, 1) := by decide +kernel
theorem dX7_withProof_18 : decode cX7_withProof 18 = .ok (.istore 6, 2) := by decide +kernel
theorem dX7_withProof_20 : decode cX7_withProof 20 = .ok (.iload 6, 2) := by decide +kernel
theorem dX7_withProof_22 : decode cX7_withProof 22 = .ok (.bipush 7, 2) := by decide +kernel
theorem dX7_withProof_24 : decode cX7_withProof 24 = .ok (.if_icmp .gt 25, 3) := by decide +kernel
theorem dX7_withProof_27 : decode cX7_withProof 27 = .ok (.lload_n 3, 1) := by decide +kernel
theorem dX7_withProof_28 : decode cX7_withProof 28 = .ok (.ldc2_w 300, 3) := by decide +kernel
theorem dX7_withProof_31 : decode cX7_withProof 31 = .ok (.lmul, 1) := by decide +kernel
theorem dX7_withProof_32 : decode cX7_withProof 32 = .ok (.aload_n 0, 1) := by decide +kernel
theorem dX7_withProof_33 : decode cX7_withProof 33 = .ok (.iload 5, 2) := by decide +kernel
theorem dX7_withProof_35 : decode cX7_withProof 35 = .ok (.iload 6, 2) := by decide +kernel
theorem dX7_withProof_37 : decode cX7_withProof 37 = .ok (.invokevirtual 315, 3) := by decide +kernel
theorem dX7_withProof_40 : decode cX7_withProof 40 = .ok (.i2l, 1) := by decide +kernel
theorem dX7_withProof_41 : decode cX7_withProof 41 = .ok (.ladd, 1) := by decide +kernel
theorem dX7_withProof_42 : decode cX7_withProof 42 = .ok (.lstore_n 3, 1) := by decide +kernel
theorem dX7_withProof_43 : decode cX7_withProof 43 = .ok (.iinc 6 1, 3) := by decide +kernel
theorem dX7_withProof_46 : decode cX7_withProof 46 = .ok (.goto (-26), 3) := by decide +kernel
theorem dX7_withProof_49 : decode cX7_withProof 49 = .ok (.iinc 5 1, 3) := by decide +kernel
theorem dX7_withProof_52 : decode cX7_withProof 52 = .ok (.goto (-47), 3) := by decide +kernel
theorem dX7_withProof_55 : decode cX7_withProof 55 = .ok (.iconst 0, 1) := by decide +kernel
theorem dX7_withProof_56 : decode cX7_withProof 56 = .ok (.istore 5, 2) := by decide +kernel
theorem dX7_withProof_58 : decode cX7_withProof 58 = .ok (.iload 5, 2) := by decide +kernel
theorem dX7_withProof_60 : decode cX7_withProof 60 = .ok (.aload_n 0, 1) := by decide +kernel
theorem dX7_withProof_61 : decode cX7_withProof 61 = .ok (.getfield 44, 3) := by decide +kernel
theorem dX7_withProof_64 : decode cX7_withProof 64 = .ok (.invokevirtual 201, 3) := by decide +kernel
theorem dX7_withProof_67 : decode cX7_withProof 67 = .ok (.if_icmp .ge 40, 3) := by decide +kernel
theorem dX7_withProof_70 : decode cX7_withProof 70 = .ok (.iconst 0, 1) := by decide +kernel
theorem dX7_withProof_71 : decode cX7_withProof 71 = .ok (.istore 6, 2) := by decide +kernel
theorem dX7_withProof_73 : decode cX7_withProof 73 = .ok (.iload 6, 2) := by decide +kernel
theorem dX7_withProof_75 : decode cX7_withProof 75 = .ok (.iconst 3, 1) := by decide +kernel
theorem dX7_withProof_76 : decode cX7_withProof 76 = .ok (.if_icmp .gt 25, 3) := by decide +kernel
theorem dX7_withProof_79 : decode cX7_withProof 79 = .ok (.lload_n 3, 1) := by decide +kernel
theorem dX7_withProof_80 : decode cX7_withProof 80 = .ok (.ldc2_w 300, 3) := by decide +kernel
theorem dX7_withProof_83 : decode cX7_withProof 83 = .ok (.lmul, 1) := by decide +kernel
theorem dX7_withProof_84 : decode cX7_withProof 84 = .ok (.aload_n 0, 1) := by decide +kernel
theorem dX7_withProof_85 : decode cX7_withProof 85 = .ok (.iload 5, 2) := by decide +kernel
theorem dX7_withProof_87 : decode cX7_withProof 87 = .ok (.iload 6, 2) := by decide +kernel
theorem dX7_withProof_89 : decode cX7_withProof 89 = .ok (.invokevirtual 318, 3) := by decide +kernel
theorem dX7_withProof_92 : decode cX7_withProof 92 = .ok (.i2l, 1) := by decide +kernel
theorem dX7_withProof_93 : decode cX7_withProof 93 = .ok (.ladd, 1) := by decide +kernel
theorem dX7_withProof_94 : decode cX7_withProof 94 = .ok (.lstore_n 3, 1) := by decide +kernel
theorem dX7_withProof_95 : decode cX7_withProof 95 = .ok (.iinc 6 1, 3) := by decide +kernel
theorem dX7_withProof_98 : decode cX7_withProof 98 = .ok (.goto (-25), 3) := by decide +kernel
theorem dX7_withProof_101 : decode cX7_withProof 101 = .ok (.iinc 5 1, 3) := by decide +kernel
theorem dX7_withProof_104 : decode cX7_withProof 104 = .ok (.goto (-46), 3) := by decide +kernel
theorem dX7_withProof_107 : decode cX7_withProof 107 = .ok (.lload_n 3, 1) := by decide +kernel
theorem dX7_withProof_108 : decode cX7_withProof 108 = .ok (.lreturn, 1) := by decide +kernel
theorem dX7_withTheorems_0 : decode cX7_withTheorems 0 = .ok (.lload_n 1, 1) := by decide +kernel
theorem dX7_withTheorems_1 : decode cX7_withTheorems 1 = .ok (.lstore_n 3, 1) := by decide +kernel
theorem dX7_withTheorems_2 : decode cX7_withTheorems 2 = .ok (.iconst 0, 1) := by decide +kernel
theorem dX7_withTheorems_3 : decode cX7_withTheorems 3 = .ok (.istore 5, 2) := by decide +kernel
theorem dX7_withTheorems_5 : decode cX7_withTheorems 5 = .ok (.iload 5, 2) := by decide +kernel
theorem dX7_withTheorems_7 : decode cX7_withTheorems 7 = .ok (.aload_n 0, 1) := by decide +kernel
theorem dX7_withTheorems_8 : decode cX7_withTheorems 8 = .ok (.getfield 35, 3) := by decide +kernel
theorem dX7_withTheorems_11 : decode cX7_withTheorems 11 = .ok (.invokevirtual 204, 3) := by decide +kernel
theorem dX7_withTheorems_14 : decode cX7_withTheorems 14 = .ok (.if_icmp .ge 41, 3) := by decide +kernel
theorem dX7_withTheorems_17 : decode cX7_withTheorems 17 = .ok (.iconst 0, 1) := by decide +kernel
theorem dX7_withTheorems_18 : decode cX7_withTheorems 18 = .ok (.istore 6, 2) := by decide +kernel
theorem dX7_withTheorems_20 : decode cX7_withTheorems 20 = .ok (.iload 6, 2) := by decide +kernel
theorem dX7_withTheorems_22 : decode cX7_withTheorems 22 = .ok (.bipush 6, 2) := by decide +kernel
theorem dX7_withTheorems_24 : decode cX7_withTheorems 24 = .ok (.if_icmp .gt 25, 3) := by decide +kernel
theorem dX7_withTheorems_27 : decode cX7_withTheorems 27 = .ok (.lload_n 3, 1) := by decide +kernel
theorem dX7_withTheorems_28 : decode cX7_withTheorems 28 = .ok (.ldc2_w 300, 3) := by decide +kernel
theorem dX7_withTheorems_31 : decode cX7_withTheorems 31 = .ok (.lmul, 1) := by decide +kernel
theorem dX7_withTheorems_32 : decode cX7_withTheorems 32 = .ok (.aload_n 0, 1) := by decide +kernel
theorem dX7_withTheorems_33 : decode cX7_withTheorems 33 = .ok (.iload 5, 2) := by decide +kernel
theorem dX7_withTheorems_35 : decode cX7_withTheorems 35 = .ok (.iload 6, 2) := by decide +kernel
theorem dX7_withTheorems_37 : decode cX7_withTheorems 37 = .ok (.invokevirtual 321, 3) := by decide +kernel
theorem dX7_withTheorems_40 : decode cX7_withTheorems 40 = .ok (.i2l, 1) := by decide +kernel
theorem dX7_withTheorems_41 : decode cX7_withTheorems 41 = .ok (.ladd, 1) := by decide +kernel
theorem dX7_withTheorems_42 : decode cX7_withTheorems 42 = .ok (.lstore_n 3, 1) := by decide +kernel
theorem dX7_withTheorems_43 : decode cX7_withTheorems 43 = .ok (.iinc 6 1, 3) := by decide +kernel
theorem dX7_withTheorems_46 : decode cX7_withTheorems 46 = .ok (.goto (-26), 3) := by decide +kernel
theorem dX7_withTheorems_49 : decode cX7_withTheorems 49 = .ok (.iinc 5 1, 3) := by decide +kernel
theorem dX7_withTheorems_52 : decode cX7_withTheorems 52 = .ok (.goto (-47), 3) := by decide +kernel
theorem dX7_withTheorems_55 : decode cX7_withTheorems 55 = .ok (.lload_n 3, 1) := by decide +kernel
theorem dX7_withTheorems_56 : decode cX7_withTheorems 56 = .ok (.lreturn, 1) := by decide +kernel
