theorem dX0_init_0 : decode cX0_init 0 = .ok (.aload_n 0, 1) := by decide +kernel
theorem dX0_init_1 : decode cX0_init 1 = .ok (.invokespecial 3, 3) := by decide +kernel
theorem dX0_init_4 : decode cX0_init 4 = .ok (.aload_n 0, 1) := by decide +kernel
theorem dX0_init_5 : decode cX0_init 5 = .ok (.bipush 60, 2) := by decide +kernel
theorem dX0_init_7 : decode cX0_init 7 = .ok (.newarray .int, 2) := by decide +kernel
theorem dX0_init_9 : decode cX0_init 9 = .ok (.putfield 9, 3) := by decide +kernel
theorem dX0_init_12 : decode cX0_init 12 = .ok (.aload_n 0, 1) := by decide +kernel
theorem dX0_init_13 : decode cX0_init 13 = .ok (.bipush 60, 2) := by decide +kernel
theorem dX0_init_15 : decode cX0_init 15 = .ok (.newarray .int, 2) := by decide +kernel
theorem dX0_init_17 : decode cX0_init 17 = .ok (.putfield 15, 3) := by decide +kernel
theorem dX0_init_20 : decode cX0_init 20 = .ok (.aload_n 0, 1) := by decide +kernel
theorem dX0_init_21 : decode cX0_init 21 = .ok (.bipush 60, 2) := by decide +kernel
theorem dX0_init_23 : decode cX0_init 23 = .ok (.newarray .int, 2) := by decide +kernel
theorem dX0_init_25 : decode cX0_init 25 = .ok (.putfield 18, 3) := by decide +kernel
theorem dX0_init_28 : decode cX0_init 28 = .ok (.aload_n 0, 1) := by decide +kernel
theorem dX0_init_29 : decode cX0_init 29 = .ok (.iconst (-1), 1) := by decide +kernel
theorem dX0_init_30 : decode cX0_init 30 = .ok (.putfield 21, 3) := by decide +kernel
theorem dX0_init_33 : decode cX0_init 33 = .ok (.return_, 1) := by decide +kernel
theorem dX0_known_0 : decode cX0_known 0 = .ok (.aload_n 0, 1) := by decide +kernel
theorem dX0_known_1 : decode cX0_known 1 = .ok (.getfield 25, 3) := by decide +kernel
theorem dX0_known_4 : decode cX0_known 4 = .ok (.ireturn, 1) := by decide +kernel
theorem dX0_open_0 : decode cX0_open 0 = .ok (.aload_n 0, 1) := by decide +kernel
theorem dX0_open_1 : decode cX0_open 1 = .ok (.getfield 28, 3) := by decide +kernel
theorem dX0_open_4 : decode cX0_open 4 = .ok (.ireturn, 1) := by decide +kernel
theorem dX0_innermost_0 : decode cX0_innermost 0 = .ok (.aload_n 0, 1) := by decide +kernel
theorem dX0_innermost_1 : decode cX0_innermost 1 = .ok (.getfield 21, 3) := by decide +kernel
theorem dX0_innermost_4 : decode cX0_innermost 4 = .ok (.ireturn, 1) := by decide +kernel
theorem dX0_first_0 : decode cX0_first 0 = .ok (.iload_n 1, 1) := by decide +kernel
theorem dX0_first_1 : decode cX0_first 1 = .ok (.ifCond .lt 20, 3) := by decide +kernel
theorem dX0_first_4 : decode cX0_first 4 = .ok (.iload_n 1, 1) := by decide +kernel
theorem dX0_first_5 : decode cX0_first 5 = .ok (.aload_n 0, 1) := by decide +kernel
theorem dX0_first_6 : decode cX0_first 6 = .ok (.getfield 25, 3) := by decide +kernel
theorem dX0_first_9 : decode cX0_first 9 = .ok (.if_icmp .ge 12, 3) := by decide +kernel
theorem dX0_first_12 : decode cX0_first 12 = .ok (.aload_n 0, 1) := by decide +kernel
theorem dX0_first_13 : decode cX0_first 13 = .ok (.getfield 9, 3) := by decide +kernel
theorem dX0_first_16 : decode cX0_first 16 = .ok (.iload_n 1, 1) := by decide +kernel
theorem dX0_first_17 : decode cX0_first 17 = .ok (.iaload, 1) := by decide +kernel
theorem dX0_first_18 : decode cX0_first 18 = .ok (.goto 4, 3) := by decide +kernel
theorem dX0_first_21 : decode cX0_first 21 = .ok (.iconst (-1), 1) := by decide +kernel
theorem dX0_first_22 : decode cX0_first 22 = .ok (.ireturn, 1) := by decide +kernel
theorem dX0_last_0 : decode cX0_last 0 = .ok (.iload_n 1, 1) := by decide +kernel
theorem dX0_last_1 : decode cX0_last 1 = .ok (.ifCond .lt 20, 3) := by decide +kernel
theorem dX0_last_4 : decode cX0_last 4 = .ok (.iload_n 1, 1) := by decide +kernel
theorem dX0_last_5 : decode cX0_last 5 = .ok (.aload_n 0, 1) := by decide +kernel
theorem dX0_last_6 : decode cX0_last 6 = .ok (.getfield 25, 3) := by decide +kernel
theorem dX0_last_9 : decode cX0_last 9 = .ok (.if_icmp .ge 12, 3) := by decide +kernel
theorem dX0_last_12 : decode cX0_last 12 = .ok (.aload_n 0, 1) := by decide +kernel
theorem dX0_last_13 : decode cX0_last 13 = .ok (.getfield 15, 3) := by decide +kernel
theorem dX0_last_16 : decode cX0_last 16 = .ok (.iload_n 1, 1) := by decide +kernel
theorem dX0_last_17 : decode cX0_last 17 = .ok (.iaload, 1) := by decide +kernel
theorem dX0_last_18 : decode cX0_last 18 = .ok (.goto 4, 3) := by decide +kernel
theorem dX0_last_21 : decode cX0_last 21 = .ok (.iconst (-1), 1) := by decide +kernel
theorem dX0_last_22 : decode cX0_last 22 = .ok (.ireturn, 1) := by decide +kernel
theorem dX0_outer_0 : decode cX0_outer 0 = .ok (.iload_n 1, 1) := by decide +kernel
theorem dX0_outer_1 : decode cX0_outer 1 = .ok (.ifCond .lt 20, 3) := by decide +kernel
theorem dX0_outer_4 : decode cX0_outer 4 = .ok (.iload_n 1, 1) := by decide +kernel
theorem dX0_outer_5 : decode cX0_outer 5 = .ok (.aload_n 0, 1) := by decide +kernel
theorem dX0_outer_6 : decode cX0_outer 6 = .ok (.getfield 25, 3) := by decide +kernel
theorem dX0_outer_9 : decode cX0_outer 9 = .ok (.if_icmp .ge 12, 3) := by decide +kernel
theorem dX0_outer_12 : decode cX0_outer 12 = .ok (.aload_n 0, 1) := by decide +kernel
theorem dX0_outer_13 : decode cX0_outer 13 = .ok (.getfield 18, 3) := by decide +kernel
theorem dX0_outer_16 : decode cX0_outer 16 = .ok (.iload_n 1, 1) := by decide +kernel
theorem dX0_outer_17 : decode cX0_outer 17 = .ok (.iaload, 1) := by decide +kernel
theorem dX0_outer_18 : decode cX0_outer 18 = .ok (.goto 4, 3) := by decide +kernel
theorem dX0_outer_21 : decode cX0_outer 21 = .ok (.iconst (-1), 1) := by decide +kernel
theorem dX0_outer_22 : decode cX0_outer 22 = .ok (.ireturn, 1) := by decide +kernel
theorem dX0_isOpen_0 : decode cX0_isOpen 0 = .ok (.iload_n 1, 1) := by decide +kernel
theorem dX0_isOpen_1 : decode cX0_isOpen 1 = .ok (.ifCond .lt 20, 3) := by decide +kernel
theorem dX0_isOpen_4 : decode cX0_isOpen 4 = .ok (.iload_n 1, 1) := by decide +kernel
theorem dX0_isOpen_5 : decode cX0_isOpen 5 = .ok (.aload_n 0, 1) := by decide +kernel
theorem dX0_isOpen_6 : decode cX0_isOpen 6 = .ok (.getfield 25, 3) := by decide +kernel
theorem dX0_isOpen_9 : decode cX0_isOpen 9 = .ok (.if_icmp .ge 16, 3) := by decide +kernel
theorem dX0_isOpen_12 : decode cX0_isOpen 12 = .ok (.aload_n 0, 1) := by decide +kernel
theorem dX0_isOpen_13 : decode cX0_isOpen 13 = .ok (.getfield 15, 3) := by decide +kernel
theorem dX0_isOpen_16 : decode cX0_isOpen 16 = .ok (.iload_n 1, 1) := by decide +kernel
theorem dX0_isOpen_17 : decode cX0_isOpen 17 = .ok (.iaload, 1) := by decide +kernel
theorem dX0_isOpen_18 : decode cX0_isOpen 18 = .ok (.ifCond .ge 7, 3) := by decide +kernel
theorem dX0_isOpen_21 : decode cX0_isOpen 21 = .ok (.iconst 1, 1) := by decide +kernel
theorem dX0_isOpen_22 : decode cX0_isOpen 22 = .ok (.goto 4, 3) := by decide +kernel
theorem dX0_isOpen_25 : decode cX0_isOpen 25 = .ok (.iconst 0, 1) := by decide +kernel
theorem dX0_isOpen_26 : decode cX0_isOpen 26 = .ok (.ireturn, 1) := by decide +kernel
theorem dX0_canBeReferredTo_0 : decode cX0_canBeReferredTo 0 = .ok (.iload_n 1, 1) := by decide +kernel
theorem dX0_canBeReferredTo_1 : decode cX0_canBeReferredTo 1 = .ok (.ifCond .lt 37, 3) := by decide +kernel
theorem dX0_canBeReferredTo_4 : decode cX0_canBeReferredTo 4 = .ok (.iload_n 1, 1) := by decide +kernel
theorem dX0_canBeReferredTo_5 : decode cX0_canBeReferredTo 5 = .ok (.aload_n 0, 1) := by decide +kernel
theorem dX0_canBeReferredTo_6 : decode cX0_canBeReferredTo 6 = .ok (.getfield 25, 3) := by decide +kernel
theorem dX0_canBeReferredTo_9 : decode cX0_canBeReferredTo 9 = .ok (.if_icmp .ge 29, 3) := by decide +kernel
theorem dX0_canBeReferredTo_12 : decode cX0_canBeReferredTo 12 = .ok (.aload_n 0, 1) := by decide +kernel
theorem dX0_canBeReferredTo_13 : decode cX0_canBeReferredTo 13 = .ok (.getfield 15, 3) := by decide +kernel
theorem dX0_canBeReferredTo_16 : decode cX0_canBeReferredTo 16 = .ok (.iload_n 1, 1) := by decide +kernel
theorem dX0_canBeReferredTo_17 : decode cX0_canBeReferredTo 17 = .ok (.iaload, 1) := by decide +kernel
theorem dX0_canBeReferredTo_18 : decode cX0_canBeReferredTo 18 = .ok (.ifCond .lt 20, 3) := by decide +kernel
theorem dX0_canBeReferredTo_21 : decode cX0_canBeReferredTo 21 = .ok (.aload_n 0, 1) := by decide +kernel
theorem dX0_canBeReferredTo_22 : decode cX0_canBeReferredTo 22 = .ok (.aload_n 0, 1) := by decide +kernel
theorem dX0_canBeReferredTo_23 : decode cX0_canBeReferredTo 23 = .ok (.getfield 18, 3) := by decide +kernel
theorem dX0_canBeReferredTo_26 : decode cX0_canBeReferredTo 26 = .ok (.iload_n 1, 1) := by decide +kernel
theorem dX0_canBeReferredTo_27 : decode cX0_canBeReferredTo 27 = .ok (.iaload, 1) := by decide +kernel
theorem dX0_canBeReferredTo_28 : decode cX0_canBeReferredTo 28 = .ok (.invokevirtual 31, 3) := by decide +kernel
theorem dX0_canBeReferredTo_31 : decode cX0_canBeReferredTo 31 = .ok (.ifCond .eq 7, 3) := by decide +kernel
theorem dX0_canBeReferredTo_34 : decode cX0_canBeReferredTo 34 = .ok (.iconst 1, 1) := by decide +kernel
theorem dX0_canBeReferredTo_35 : decode cX0_canBeReferredTo 35 = .ok (.goto 4, 3) := by decide +kernel
theorem dX0_canBeReferredTo_38 : decode cX0_canBeReferredTo 38 = .ok (.iconst 0, 1) := by decide +kernel
theorem dX0_canBeReferredTo_39 : decode cX0_canBeReferredTo 39 = .ok (.ireturn, 1) := by decide +kernel
theorem dX0_clear_0 : decode cX0_clear 0 = .ok (.aload_n 0, 1) := by decide +kernel
theorem dX0_clear_1 : decode cX0_clear 1 = .ok (.iconst 0, 1) := by decide +kernel
theorem dX0_clear_2 : decode cX0_clear 2 = .ok (.putfield 25, 3) := by decide +kernel
theorem dX0_clear_5 : decode cX0_clear 5 = .ok (.aload_n 0, 1) := by decide +kernel
theorem dX0_clear_6 : decode cX0_clear 6 = .ok (.iconst 0, 1) := by decide +kernel
theorem dX0_clear_7 : decode cX0_clear 7 = .ok (.putfield 28, 3) := by decide +kernel
theorem dX0_clear_10 : decode cX0_clear 10 = .ok (.aload_n 0, 1) := by decide +kernel
theorem dX0_clear_11 : decode cX0_clear 11 = .ok (.iconst (-1), 1) := by decide +kernel
theorem dX0_clear_12 : decode cX0_clear 12 = .ok (.putfield 21, 3) := by decide +kernel
theorem dX0_clear_15 : decode cX0_clear 15 = .ok (.return_, 1) := by decide +kernel
theorem dX0_addAt_0 : decode cX0_addAt 0 = .ok (.aload_n 0, 1) := by decide +kernel
theorem dX0_addAt_1 : decode cX0_addAt 1 = .ok (.getfield 25, 3) := by decide +kernel
theorem dX0_addAt_4 : decode cX0_addAt 4 = .ok (.ifCond .lt 73, 3) := by decide +kernel
theorem dX0_addAt_7 : decode cX0_addAt 7 = .ok (.aload_n 0, 1) := by decide +kernel
theorem dX0_addAt_8 : decode cX0_addAt 8 = .ok (.getfield 25, 3) := by decide +kernel
theorem dX0_addAt_11 : decode cX0_addAt 11 = .ok (.bipush 60, 2) := by decide +kernel
theorem dX0_addAt_13 : decode cX0_addAt 13 = .ok (.if_icmp .ge 64, 3) := by decide +kernel
theorem dX0_addAt_16 : decode cX0_addAt 16 = .ok (.aload_n 0, 1) := by decide +kernel
theorem dX0_addAt_17 : decode cX0_addAt 17 = .ok (.getfield 9, 3) := by decide +kernel
theorem dX0_addAt_20 : decode cX0_addAt 20 = .ok (.aload_n 0, 1) := by decide +kernel
theorem dX0_addAt_21 : decode cX0_addAt 21 = .ok (.getfield 25, 3) := by decide +kernel
theorem dX0_addAt_24 : decode cX0_addAt 24 = .ok (.iload_n 1, 1) := by decide +kernel
theorem dX0_addAt_25 : decode cX0_addAt 25 = .ok (.iastore, 1) := by decide +kernel
theorem dX0_addAt_26 : decode cX0_addAt 26 = .ok (.aload_n 0, 1) := by decide +kernel
theorem dX0_addAt_27 : decode cX0_addAt 27 = .ok (.getfield 15, 3) := by decide +kernel
theorem dX0_addAt_30 : decode cX0_addAt 30 = .ok (.aload_n 0, 1) := by decide +kernel
theorem dX0_addAt_31 : decode cX0_addAt 31 = .ok (.getfield 25, 3) := by decide +kernel
theorem dX0_addAt_34 : decode cX0_addAt 34 = .ok (.iconst (-1), 1) := by decide +kernel
theorem dX0_addAt_35 : decode cX0_addAt 35 = .ok (.iastore, 1) := by decide +kernel
theorem dX0_addAt_36 : decode cX0_addAt 36 = .ok (.aload_n 0, 1) := by decide +kernel
theorem dX0_addAt_37 : decode cX0_addAt 37 = .ok (.getfield 18, 3) := by decide +kernel
theorem dX0_addAt_40 : decode cX0_addAt 40 = .ok (.aload_n 0, 1) := by decide +kernel
theorem dX0_addAt_41 : decode cX0_addAt 41 = .ok (.getfield 25, 3) := by decide +kernel
theorem dX0_addAt_44 : decode cX0_addAt 44 = .ok (.aload_n 0, 1) := by decide +kernel
theorem dX0_addAt_45 : decode cX0_addAt 45 = .ok (.getfield 21, 3) := by decide +kernel
theorem dX0_addAt_48 : decode cX0_addAt 48 = .ok (.iastore, 1) := by decide +kernel
theorem dX0_addAt_49 : decode cX0_addAt 49 = .ok (.aload_n 0, 1) := by decide +kernel
theorem dX0_addAt_50 : decode cX0_addAt 50 = .ok (.aload_n 0, 1) := by decide +kernel
theorem dX0_addAt_51 : decode cX0_addAt 51 = .ok (.getfield 25, 3) := by decide +kernel
theorem dX0_addAt_54 : decode cX0_addAt 54 = .ok (.putfield 21, 3) := by decide +kernel
theorem dX0_addAt_57 : decode cX0_addAt 57 = .ok (.aload_n 0, 1) := by decide +kernel
theorem dX0_addAt_58 : decode cX0_addAt 58 = .ok (.dup, 1) := by decide +kernel
theorem dX0_addAt_59 : decode cX0_addAt 59 = .ok (.getfield 25, 3) := by decide +kernel
theorem dX0_addAt_62 : decode cX0_addAt 62 = .ok (.iconst 1, 1) := by decide +kernel
theorem dX0_addAt_63 : decode cX0_addAt 63 = .ok (.iadd, 1) := by decide +kernel
theorem dX0_addAt_64 : decode cX0_addAt 64 = .ok (.putfield 25, 3) := by decide +kernel
theorem dX0_addAt_67 : decode cX0_addAt 67 = .ok (.aload_n 0, 1) := by decide +kernel
theorem dX0_addAt_68 : decode cX0_addAt 68 = .ok (.dup, 1) := by decide +kernel
theorem dX0_addAt_69 : decode cX0_addAt 69 = .ok (.getfield 28, 3) := by decide +kernel
theorem dX0_addAt_72 : decode cX0_addAt 72 = .ok (.iconst 1, 1) := by decide +kernel
theorem dX0_addAt_73 : decode cX0_addAt 73 = .ok (.iadd, 1) := by decide +kernel
theorem dX0_addAt_74 : decode cX0_addAt 74 = .ok (.putfield 28, 3) := by decide +kernel
theorem dX0_addAt_77 : decode cX0_addAt 77 = .ok (.return_, 1) := by decide +kernel
theorem dX0_shutAt_0 : decode cX0_shutAt 0 = .ok (.aload_n 0, 1) := by decide +kernel
theorem dX0_shutAt_1 : decode cX0_shutAt 1 = .ok (.getfield 21, 3) := by decide +kernel
theorem dX0_shutAt_4 : decode cX0_shutAt 4 = .ok (.istore_n 2, 1) := by decide +kernel
theorem dX0_shutAt_5 : decode cX0_shutAt 5 = .ok (.iload_n 2, 1) := by decide +kernel
theorem dX0_shutAt_6 : decode cX0_shutAt 6 = .ok (.ifCond .lt 38, 3) := by decide +kernel
theorem dX0_shutAt_9 : decode cX0_shutAt 9 = .ok (.iload_n 2, 1) := by decide +kernel
theorem dX0_shutAt_10 : decode cX0_shutAt 10 = .ok (.aload_n 0, 1) := by decide +kernel
theorem dX0_shutAt_11 : decode cX0_shutAt 11 = .ok (.getfield 25, 3) := by decide +kernel
theorem dX0_shutAt_14 : decode cX0_shutAt 14 = .ok (.if_icmp .ge 30, 3) := by decide +kernel
theorem dX0_shutAt_17 : decode cX0_shutAt 17 = .ok (.aload_n 0, 1) := by decide +kernel
theorem dX0_shutAt_18 : decode cX0_shutAt 18 = .ok (.getfield 15, 3) := by decide +kernel
theorem dX0_shutAt_21 : decode cX0_shutAt 21 = .ok (.iload_n 2, 1) := by decide +kernel
theorem dX0_shutAt_22 : decode cX0_shutAt 22 = .ok (.iload_n 1, 1) := by decide +kernel
theorem dX0_shutAt_23 : decode cX0_shutAt 23 = .ok (.iastore, 1) := by decide +kernel
theorem dX0_shutAt_24 : decode cX0_shutAt 24 = .ok (.aload_n 0, 1) := by decide +kernel
theorem dX0_shutAt_25 : decode cX0_shutAt 25 = .ok (.aload_n 0, 1) := by decide +kernel
theorem dX0_shutAt_26 : decode cX0_shutAt 26 = .ok (.getfield 18, 3) := by decide +kernel
theorem dX0_shutAt_29 : decode cX0_shutAt 29 = .ok (.iload_n 2, 1) := by decide +kernel
theorem dX0_shutAt_30 : decode cX0_shutAt 30 = .ok (.iaload, 1) := by decide +kernel
theorem dX0_shutAt_31 : decode cX0_shutAt 31 = .ok (.putfield 21, 3) := by decide +kernel
theorem dX0_shutAt_34 : decode cX0_shutAt 34 = .ok (.aload_n 0, 1) := by decide +kernel
theorem dX0_shutAt_35 : decode cX0_shutAt 35 = .ok (.dup, 1) := by decide +kernel
theorem dX0_shutAt_36 : decode cX0_shutAt 36 = .ok (.getfield 28, 3) := by decide +kernel
theorem dX0_shutAt_39 : decode cX0_shutAt 39 = .ok (.iconst 1, 1) := by decide +kernel
theorem dX0_shutAt_40 : decode cX0_shutAt 40 = .ok (.isub, 1) := by decide +kernel
theorem dX0_shutAt_41 : decode cX0_shutAt 41 = .ok (.putfield 28, 3) := by decide +kernel
theorem dX0_shutAt_44 : decode cX0_shutAt 44 = .ok (.return_, 1) := by decide +kernel
theorem dX0_reopen_0 : decode cX0_reopen 0 = .ok (.iload_n 1, 1) := by decide +kernel
theorem dX0_reopen_1 : decode cX0_reopen 1 = .ok (.ifCond .lt 33, 3) := by decide +kernel
theorem dX0_reopen_4 : decode cX0_reopen 4 = .ok (.iload_n 1, 1) := by decide +kernel
theorem dX0_reopen_5 : decode cX0_reopen 5 = .ok (.aload_n 0, 1) := by decide +kernel
theorem dX0_reopen_6 : decode cX0_reopen 6 = .ok (.getfield 25, 3) := by decide +kernel
theorem dX0_reopen_9 : decode cX0_reopen 9 = .ok (.if_icmp .ge 25, 3) := by decide +kernel
theorem dX0_reopen_12 : decode cX0_reopen 12 = .ok (.aload_n 0, 1) := by decide +kernel
theorem dX0_reopen_13 : decode cX0_reopen 13 = .ok (.getfield 15, 3) := by decide +kernel
theorem dX0_reopen_16 : decode cX0_reopen 16 = .ok (.iload_n 1, 1) := by decide +kernel
theorem dX0_reopen_17 : decode cX0_reopen 17 = .ok (.iconst (-1), 1) := by decide +kernel
theorem dX0_reopen_18 : decode cX0_reopen 18 = .ok (.iastore, 1) := by decide +kernel
theorem dX0_reopen_19 : decode cX0_reopen 19 = .ok (.aload_n 0, 1) := by decide +kernel
theorem dX0_reopen_20 : decode cX0_reopen 20 = .ok (.iload_n 1, 1) := by decide +kernel
theorem dX0_reopen_21 : decode cX0_reopen 21 = .ok (.putfield 21, 3) := by decide +kernel
theorem dX0_reopen_24 : decode cX0_reopen 24 = .ok (.aload_n 0, 1) := by decide +kernel
theorem dX0_reopen_25 : decode cX0_reopen 25 = .ok (.dup, 1) := by decide +kernel
theorem dX0_reopen_26 : decode cX0_reopen 26 = .ok (.getfield 28, 3) := by decide +kernel
theorem dX0_reopen_29 : decode cX0_reopen 29 = .ok (.iconst 1, 1) := by decide +kernel
theorem dX0_reopen_30 : decode cX0_reopen 30 = .ok (.iadd, 1) := by decide +kernel
theorem dX0_reopen_31 : decode cX0_reopen 31 = .ok (.putfield 28, 3) := by decide +kernel
theorem dX0_reopen_34 : decode cX0_reopen 34 = .ok (.return_, 1) := by decide +kernel
theorem dX0_dropLatest_0 : decode cX0_dropLatest 0 = .ok (.aload_n 0, 1) := by decide +kernel
theorem dX0_dropLatest_1 : decode cX0_dropLatest 1 = .ok (.getfield 25, 3) := by decide +kernel
theorem dX0_dropLatest_4 : decode cX0_dropLatest 4 = .ok (.iconst 1, 1) := by decide +kernel
theorem dX0_dropLatest_5 : decode cX0_dropLatest 5 = .ok (.isub, 1) := by decide +kernel
theorem dX0_dropLatest_6 : decode cX0_dropLatest 6 = .ok (.istore_n 1, 1) := by decide +kernel
theorem dX0_dropLatest_7 : decode cX0_dropLatest 7 = .ok (.iload_n 1, 1) := by decide +kernel
theorem dX0_dropLatest_8 : decode cX0_dropLatest 8 = .ok (.ifCond .lt 39, 3) := by decide +kernel
theorem dX0_dropLatest_11 : decode cX0_dropLatest 11 = .ok (.iload_n 1, 1) := by decide +kernel
theorem dX0_dropLatest_12 : decode cX0_dropLatest 12 = .ok (.bipush 60, 2) := by decide +kernel
theorem dX0_dropLatest_14 : decode cX0_dropLatest 14 = .ok (.if_icmp .ge 33, 3) := by decide +kernel
theorem dX0_dropLatest_17 : decode cX0_dropLatest 17 = .ok (.aload_n 0, 1) := by decide +kernel
theorem dX0_dropLatest_18 : decode cX0_dropLatest 18 = .ok (.aload_n 0, 1) := by decide +kernel
theorem dX0_dropLatest_19 : decode cX0_dropLatest 19 = .ok (.getfield 18, 3) := by decide +kernel
theorem dX0_dropLatest_22 : decode cX0_dropLatest 22 = .ok (.iload_n 1, 1) := by decide +kernel
theorem dX0_dropLatest_23 : decode cX0_dropLatest 23 = .ok (.iaload, 1) := by decide +kernel
theorem dX0_dropLatest_24 : decode cX0_dropLatest 24 = .ok (.putfield 21, 3) := by decide +kernel
theorem dX0_dropLatest_27 : decode cX0_dropLatest 27 = .ok (.aload_n 0, 1) := by decide +kernel
theorem dX0_dropLatest_28 : decode cX0_dropLatest 28 = .ok (.dup, 1) := by decide +kernel
theorem dX0_dropLatest_29 : decode cX0_dropLatest 29 = .ok (.getfield 28, 3) := by decide +kernel
theorem dX0_dropLatest_32 : decode cX0_dropLatest 32 = .ok (.iconst 1, 1) := by decide +kernel
theorem dX0_dropLatest_33 : decode cX0_dropLatest 33 = .ok (.isub, 1) := by decide +kernel
theorem dX0_dropLatest_34 : decode cX0_dropLatest 34 = .ok (.putfield 28, 3) := by decide +kernel
theorem dX0_dropLatest_37 : decode cX0_dropLatest 37 = .ok (.aload_n 0, 1) := by decide +kernel
theorem dX0_dropLatest_38 : decode cX0_dropLatest 38 = .ok (.dup, 1) := by decide +kernel
theorem dX0_dropLatest_39 : decode cX0_dropLatest 39 = .ok (.getfield 25, 3) := by decide +kernel
theorem dX0_dropLatest_42 : decode cX0_dropLatest 42 = .ok (.iconst 1, 1) := by decide +kernel
theorem dX0_dropLatest_43 : decode cX0_dropLatest 43 = .ok (.isub, 1) := by decide +kernel
theorem dX0_dropLatest_44 : decode cX0_dropLatest 44 = .ok (.putfield 25, 3) := by decide +kernel
theorem dX0_dropLatest_47 : decode cX0_dropLatest 47 = .ok (.return_, 1) := by decide +kernel
theorem dX1_init_0 : decode cX1_init 0 = .ok (.aload_n 0, 1) := by decide +kernel
theorem dX1_init_1 : decode cX1_init 1 = .ok (.invokespecial 3, 3) := by decide +kernel
theorem dX1_init_4 : decode cX1_init 4 = .ok (.aload_n 0, 1) := by decide +kernel
theorem dX1_init_5 : decode cX1_init 5 = .ok (.sipush 240, 3) := by decide +kernel
theorem dX1_init_8 : decode cX1_init 8 = .ok (.newarray .int, 2) := by decide +kernel
theorem dX1_init_10 : decode cX1_init 10 = .ok (.putfield 9, 3) := by decide +kernel
theorem dX1_init_13 : decode cX1_init 13 = .ok (.aload_n 0, 1) := by decide +kernel
theorem dX1_init_14 : decode cX1_init 14 = .ok (.sipush 240, 3) := by decide +kernel
theorem dX1_init_17 : decode cX1_init 17 = .ok (.newarray .int, 2) := by decide +kernel
theorem dX1_init_19 : decode cX1_init 19 = .ok (.putfield 15, 3) := by decide +kernel
theorem dX1_init_22 : decode cX1_init 22 = .ok (.aload_n 0, 1) := by decide +kernel
theorem dX1_init_23 : decode cX1_init 23 = .ok (.sipush 240, 3) := by decide +kernel
theorem dX1_init_26 : decode cX1_init 26 = .ok (.newarray .int, 2) := by decide +kernel
theorem dX1_init_28 : decode cX1_init 28 = .ok (.putfield 18, 3) := by decide +kernel
theorem dX1_init_31 : decode cX1_init 31 = .ok (.aload_n 0, 1) := by decide +kernel
theorem dX1_init_32 : decode cX1_init 32 = .ok (.sipush 240, 3) := by decide +kernel
theorem dX1_init_35 : decode cX1_init 35 = .ok (.newarray .int, 2) := by decide +kernel
theorem dX1_init_37 : decode cX1_init 37 = .ok (.putfield 21, 3) := by decide +kernel
theorem dX1_init_40 : decode cX1_init 40 = .ok (.aload_n 0, 1) := by decide +kernel
theorem dX1_init_41 : decode cX1_init 41 = .ok (.sipush 240, 3) := by decide +kernel
theorem dX1_init_44 : decode cX1_init 44 = .ok (.newarray .int, 2) := by decide +kernel
theorem dX1_init_46 : decode cX1_init 46 = .ok (.putfield 24, 3) := by decide +kernel
theorem dX1_init_49 : decode cX1_init 49 = .ok (.aload_n 0, 1) := by decide +kernel
theorem dX1_init_50 : decode cX1_init 50 = .ok (.sipush 240, 3) := by decide +kernel
theorem dX1_init_53 : decode cX1_init 53 = .ok (.newarray .int, 2) := by decide +kernel
theorem dX1_init_55 : decode cX1_init 55 = .ok (.putfield 27, 3) := by decide +kernel
theorem dX1_init_58 : decode cX1_init 58 = .ok (.aload_n 0, 1) := by decide +kernel
theorem dX1_init_59 : decode cX1_init 59 = .ok (.sipush 960, 3) := by decide +kernel
theorem dX1_init_62 : decode cX1_init 62 = .ok (.newarray .long, 2) := by decide +kernel
theorem dX1_init_64 : decode cX1_init 64 = .ok (.putfield 30, 3) := by decide +kernel
theorem dX1_init_67 : decode cX1_init 67 = .ok (.return_, 1) := by decide +kernel
theorem dX1_known_0 : decode cX1_known 0 = .ok (.aload_n 0, 1) := by decide +kernel
theorem dX1_known_1 : decode cX1_known 1 = .ok (.getfield 34, 3) := by decide +kernel
theorem dX1_known_4 : decode cX1_known 4 = .ok (.ireturn, 1) := by decide +kernel
theorem dX1_isKnown_0 : decode cX1_isKnown 0 = .ok (.iload_n 1, 1) := by decide +kernel
theorem dX1_isKnown_1 : decode cX1_isKnown 1 = .ok (.ifCond .lt 15, 3) := by decide +kernel
theorem dX1_isKnown_4 : decode cX1_isKnown 4 = .ok (.iload_n 1, 1) := by decide +kernel
theorem dX1_isKnown_5 : decode cX1_isKnown 5 = .ok (.aload_n 0, 1) := by decide +kernel
theorem dX1_isKnown_6 : decode cX1_isKnown 6 = .ok (.getfield 34, 3) := by decide +kernel
theorem dX1_isKnown_9 : decode cX1_isKnown 9 = .ok (.if_icmp .ge 7, 3) := by decide +kernel
theorem dX1_isKnown_12 : decode cX1_isKnown 12 = .ok (.iconst 1, 1) := by decide +kernel
theorem dX1_isKnown_13 : decode cX1_isKnown 13 = .ok (.goto 4, 3) := by decide +kernel
theorem dX1_isKnown_16 : decode cX1_isKnown 16 = .ok (.iconst 0, 1) := by decide +kernel
theorem dX1_isKnown_17 : decode cX1_isKnown 17 = .ok (.ireturn, 1) := by decide +kernel
theorem dX1_sort_0 : decode cX1_sort 0 = .ok (.iload_n 1, 1) := by decide +kernel
theorem dX1_sort_1 : decode cX1_sort 1 = .ok (.ifCond .lt 20, 3) := by decide +kernel
theorem dX1_sort_4 : decode cX1_sort 4 = .ok (.iload_n 1, 1) := by decide +kernel
theorem dX1_sort_5 : decode cX1_sort 5 = .ok (.aload_n 0, 1) := by decide +kernel
theorem dX1_sort_6 : decode cX1_sort 6 = .ok (.getfield 34, 3) := by decide +kernel
theorem dX1_sort_9 : decode cX1_sort 9 = .ok (.if_icmp .ge 12, 3) := by decide +kernel
theorem dX1_sort_12 : decode cX1_sort 12 = .ok (.aload_n 0, 1) := by decide +kernel
theorem dX1_sort_13 : decode cX1_sort 13 = .ok (.getfield 9, 3) := by decide +kernel
theorem dX1_sort_16 : decode cX1_sort 16 = .ok (.iload_n 1, 1) := by decide +kernel
theorem dX1_sort_17 : decode cX1_sort 17 = .ok (.iaload, 1) := by decide +kernel
theorem dX1_sort_18 : decode cX1_sort 18 = .ok (.goto 4, 3) := by decide +kernel
theorem dX1_sort_21 : decode cX1_sort 21 = .ok (.iconst (-1), 1) := by decide +kernel
theorem dX1_sort_22 : decode cX1_sort 22 = .ok (.ireturn, 1) := by decide +kernel
theorem dX1_first_0 : decode cX1_first 0 = .ok (.iload_n 1, 1) := by decide +kernel
theorem dX1_first_1 : decode cX1_first 1 = .ok (.ifCond .lt 20, 3) := by decide +kernel
theorem dX1_first_4 : decode cX1_first 4 = .ok (.iload_n 1, 1) := by decide +kernel
theorem dX1_first_5 : decode cX1_first 5 = .ok (.aload_n 0, 1) := by decide +kernel
theorem dX1_first_6 : decode cX1_first 6 = .ok (.getfield 34, 3) := by decide +kernel
theorem dX1_first_9 : decode cX1_first 9 = .ok (.if_icmp .ge 12, 3) := by decide +kernel
theorem dX1_first_12 : decode cX1_first 12 = .ok (.aload_n 0, 1) := by decide +kernel
theorem dX1_first_13 : decode cX1_first 13 = .ok (.getfield 15, 3) := by decide +kernel
theorem dX1_first_16 : decode cX1_first 16 = .ok (.iload_n 1, 1) := by decide +kernel
theorem dX1_first_17 : decode cX1_first 17 = .ok (.iaload, 1) := by decide +kernel
theorem dX1_first_18 : decode cX1_first 18 = .ok (.goto 4, 3) := by decide +kernel
theorem dX1_first_21 : decode cX1_first 21 = .ok (.iconst (-1), 1) := by decide +kernel
theorem dX1_first_22 : decode cX1_first 22 = .ok (.ireturn, 1) := by decide +kernel
theorem dX1_left_0 : decode cX1_left 0 = .ok (.iload_n 1, 1) := by decide +kernel
theorem dX1_left_1 : decode cX1_left 1 = .ok (.ifCond .lt 30, 3) := by decide +kernel
theorem dX1_left_4 : decode cX1_left 4 = .ok (.iload_n 1, 1) := by decide +kernel
theorem dX1_left_5 : decode cX1_left 5 = .ok (.aload_n 0, 1) := by decide +kernel
theorem dX1_left_6 : decode cX1_left 6 = .ok (.getfield 34, 3) := by decide +kernel
theorem dX1_left_9 : decode cX1_left 9 = .ok (.if_icmp .ge 22, 3) := by decide +kernel
theorem dX1_left_12 : decode cX1_left 12 = .ok (.aload_n 0, 1) := by decide +kernel
theorem dX1_left_13 : decode cX1_left 13 = .ok (.getfield 9, 3) := by decide +kernel
theorem dX1_left_16 : decode cX1_left 16 = .ok (.iload_n 1, 1) := by decide +kernel
theorem dX1_left_17 : decode cX1_left 17 = .ok (.iaload, 1) := by decide +kernel
theorem dX1_left_18 : decode cX1_left 18 = .ok (.iconst 2, 1) := by decide +kernel
theorem dX1_left_19 : decode cX1_left 19 = .ok (.if_icmp .lt 12, 3) := by decide +kernel
theorem dX1_left_22 : decode cX1_left 22 = .ok (.aload_n 0, 1) := by decide +kernel
theorem dX1_left_23 : decode cX1_left 23 = .ok (.getfield 15, 3) := by decide +kernel
theorem dX1_left_26 : decode cX1_left 26 = .ok (.iload_n 1, 1) := by decide +kernel
theorem dX1_left_27 : decode cX1_left 27 = .ok (.iaload, 1) := by decide +kernel
theorem dX1_left_28 : decode cX1_left 28 = .ok (.goto 4, 3) := by decide +kernel
theorem dX1_left_31 : decode cX1_left 31 = .ok (.iconst (-1), 1) := by decide +kernel
theorem dX1_left_32 : decode cX1_left 32 = .ok (.ireturn, 1) := by decide +kernel
theorem dX1_second_0 : decode cX1_second 0 = .ok (.iload_n 1, 1) := by decide +kernel
theorem dX1_second_1 : decode cX1_second 1 = .ok (.ifCond .lt 20, 3) := by decide +kernel
theorem dX1_second_4 : decode cX1_second 4 = .ok (.iload_n 1, 1) := by decide +kernel
theorem dX1_second_5 : decode cX1_second 5 = .ok (.aload_n 0, 1) := by decide +kernel
theorem dX1_second_6 : decode cX1_second 6 = .ok (.getfield 34, 3) := by decide +kernel
theorem dX1_second_9 : decode cX1_second 9 = .ok (.if_icmp .ge 12, 3) := by decide +kernel
theorem dX1_second_12 : decode cX1_second 12 = .ok (.aload_n 0, 1) := by decide +kernel
theorem dX1_second_13 : decode cX1_second 13 = .ok (.getfield 18, 3) := by decide +kernel
theorem dX1_second_16 : decode cX1_second 16 = .ok (.iload_n 1, 1) := by decide +kernel
theorem dX1_second_17 : decode cX1_second 17 = .ok (.iaload, 1) := by decide +kernel
theorem dX1_second_18 : decode cX1_second 18 = .ok (.goto 4, 3) := by decide +kernel
theorem dX1_second_21 : decode cX1_second 21 = .ok (.iconst (-1), 1) := by decide +kernel
theorem dX1_second_22 : decode cX1_second 22 = .ok (.ireturn, 1) := by decide +kernel
theorem dX1_letters_0 : decode cX1_letters 0 = .ok (.iload_n 1, 1) := by decide +kernel
theorem dX1_letters_1 : decode cX1_letters 1 = .ok (.ifCond .lt 20, 3) := by decide +kernel
theorem dX1_letters_4 : decode cX1_letters 4 = .ok (.iload_n 1, 1) := by decide +kernel
theorem dX1_letters_5 : decode cX1_letters 5 = .ok (.aload_n 0, 1) := by decide +kernel
theorem dX1_letters_6 : decode cX1_letters 6 = .ok (.getfield 34, 3) := by decide +kernel
theorem dX1_letters_9 : decode cX1_letters 9 = .ok (.if_icmp .ge 12, 3) := by decide +kernel
theorem dX1_letters_12 : decode cX1_letters 12 = .ok (.aload_n 0, 1) := by decide +kernel
theorem dX1_letters_13 : decode cX1_letters 13 = .ok (.getfield 21, 3) := by decide +kernel
theorem dX1_letters_16 : decode cX1_letters 16 = .ok (.iload_n 1, 1) := by decide +kernel
theorem dX1_letters_17 : decode cX1_letters 17 = .ok (.iaload, 1) := by decide +kernel
theorem dX1_letters_18 : decode cX1_letters 18 = .ok (.goto 4, 3) := by decide +kernel
theorem dX1_letters_21 : decode cX1_letters 21 = .ok (.iconst 0, 1) := by decide +kernel
theorem dX1_letters_22 : decode cX1_letters 22 = .ok (.ireturn, 1) := by decide +kernel
theorem dX1_size_0 : decode cX1_size 0 = .ok (.iload_n 1, 1) := by decide +kernel
theorem dX1_size_1 : decode cX1_size 1 = .ok (.ifCond .lt 20, 3) := by decide +kernel
theorem dX1_size_4 : decode cX1_size 4 = .ok (.iload_n 1, 1) := by decide +kernel
theorem dX1_size_5 : decode cX1_size 5 = .ok (.aload_n 0, 1) := by decide +kernel
theorem dX1_size_6 : decode cX1_size 6 = .ok (.getfield 34, 3) := by decide +kernel
theorem dX1_size_9 : decode cX1_size 9 = .ok (.if_icmp .ge 12, 3) := by decide +kernel
theorem dX1_size_12 : decode cX1_size 12 = .ok (.aload_n 0, 1) := by decide +kernel
theorem dX1_size_13 : decode cX1_size 13 = .ok (.getfield 24, 3) := by decide +kernel
theorem dX1_size_16 : decode cX1_size 16 = .ok (.iload_n 1, 1) := by decide +kernel
theorem dX1_size_17 : decode cX1_size 17 = .ok (.iaload, 1) := by decide +kernel
theorem dX1_size_18 : decode cX1_size 18 = .ok (.goto 4, 3) := by decide +kernel
theorem dX1_size_21 : decode cX1_size 21 = .ok (.iconst 0, 1) := by decide +kernel
theorem dX1_size_22 : decode cX1_size 22 = .ok (.ireturn, 1) := by decide +kernel
theorem dX1_width_0 : decode cX1_width 0 = .ok (.iload_n 1, 1) := by decide +kernel
theorem dX1_width_1 : decode cX1_width 1 = .ok (.ifCond .lt 20, 3) := by decide +kernel
theorem dX1_width_4 : decode cX1_width 4 = .ok (.iload_n 1, 1) := by decide +kernel
theorem dX1_width_5 : decode cX1_width 5 = .ok (.aload_n 0, 1) := by decide +kernel
theorem dX1_width_6 : decode cX1_width 6 = .ok (.getfield 34, 3) := by decide +kernel
theorem dX1_width_9 : decode cX1_width 9 = .ok (.if_icmp .ge 12, 3) := by decide +kernel
theorem dX1_width_12 : decode cX1_width 12 = .ok (.aload_n 0, 1) := by decide +kernel
theorem dX1_width_13 : decode cX1_width 13 = .ok (.getfield 27, 3) := by decide +kernel
theorem dX1_width_16 : decode cX1_width 16 = .ok (.iload_n 1, 1) := by decide +kernel
theorem dX1_width_17 : decode cX1_width 17 = .ok (.iaload, 1) := by decide +kernel
theorem dX1_width_18 : decode cX1_width 18 = .ok (.goto 4, 3) := by decide +kernel
theorem dX1_width_21 : decode cX1_width 21 = .ok (.iconst 0, 1) := by decide +kernel
theorem dX1_width_22 : decode cX1_width 22 = .ok (.ireturn, 1) := by decide +kernel
theorem dX1_truth_0 : decode cX1_truth 0 = .ok (.iload_n 1, 1) := by decide +kernel
theorem dX1_truth_1 : decode cX1_truth 1 = .ok (.ifCond .lt 33, 3) := by decide +kernel
theorem dX1_truth_4 : decode cX1_truth 4 = .ok (.iload_n 1, 1) := by decide +kernel
theorem dX1_truth_5 : decode cX1_truth 5 = .ok (.aload_n 0, 1) := by decide +kernel
theorem dX1_truth_6 : decode cX1_truth 6 = .ok (.getfield 34, 3) := by decide +kernel
theorem dX1_truth_9 : decode cX1_truth 9 = .ok (.if_icmp .ge 25, 3) := by decide +kernel
theorem dX1_truth_12 : decode cX1_truth 12 = .ok (.iload_n 2, 1) := by decide +kernel
theorem dX1_truth_13 : decode cX1_truth 13 = .ok (.ifCond .lt 21, 3) := by decide +kernel
theorem dX1_truth_16 : decode cX1_truth 16 = .ok (.iload_n 2, 1) := by decide +kernel
theorem dX1_truth_17 : decode cX1_truth 17 = .ok (.iconst 4, 1) := by decide +kernel
theorem dX1_truth_18 : decode cX1_truth 18 = .ok (.if_icmp .ge 16, 3) := by decide +kernel
theorem dX1_truth_21 : decode cX1_truth 21 = .ok (.aload_n 0, 1) := by decide +kernel
theorem dX1_truth_22 : decode cX1_truth 22 = .ok (.getfield 30, 3) := by decide +kernel
theorem dX1_truth_25 : decode cX1_truth 25 = .ok (.iload_n 1, 1) := by decide +kernel
theorem dX1_truth_26 : decode cX1_truth 26 = .ok (.iconst 4, 1) := by decide +kernel
theorem dX1_truth_27 : decode cX1_truth 27 = .ok (.imul, 1) := by decide +kernel
theorem dX1_truth_28 : decode cX1_truth 28 = .ok (.iload_n 2, 1) := by decide +kernel
theorem dX1_truth_29 : decode cX1_truth 29 = .ok (.iadd, 1) := by decide +kernel
theorem dX1_truth_30 : decode cX1_truth 30 = .ok (.laload, 1) := by decide +kernel
theorem dX1_truth_31 : decode cX1_truth 31 = .ok (.goto 4, 3) := by decide +kernel
theorem dX1_truth_34 : decode cX1_truth 34 = .ok (.lconst 0, 1) := by decide +kernel
theorem dX1_truth_35 : decode cX1_truth 35 = .ok (.lreturn, 1) := by decide +kernel
theorem dX1_trueSets_0 : decode cX1_trueSets 0 = .ok (.iconst 0, 1) := by decide +kernel
theorem dX1_trueSets_1 : decode cX1_trueSets 1 = .ok (.istore_n 2, 1) := by decide +kernel
theorem dX1_trueSets_2 : decode cX1_trueSets 2 = .ok (.iconst 0, 1) := by decide +kernel
theorem dX1_trueSets_3 : decode cX1_trueSets 3 = .ok (.istore_n 3, 1) := by decide +kernel
theorem dX1_trueSets_4 : decode cX1_trueSets 4 = .ok (.iload_n 3, 1) := by decide +kernel
theorem dX1_trueSets_5 : decode cX1_trueSets 5 = .ok (.iconst 4, 1) := by decide +kernel
theorem dX1_trueSets_6 : decode cX1_trueSets 6 = .ok (.if_icmp .ge 21, 3) := by decide +kernel
theorem dX1_trueSets_9 : decode cX1_trueSets 9 = .ok (.iload_n 2, 1) := by decide +kernel
theorem dX1_trueSets_10 : decode cX1_trueSets 10 = .ok (.aload_n 0, 1) := by decide +kernel
theorem dX1_trueSets_11 : decode cX1_trueSets 11 = .ok (.iload_n 1, 1) := by decide +kernel
theorem dX1_trueSets_12 : decode cX1_trueSets 12 = .ok (.iload_n 3, 1) := by decide +kernel
theorem dX1_trueSets_13 : decode cX1_trueSets 13 = .ok (.invokevirtual 38, 3) := by decide +kernel
theorem dX1_trueSets_16 : decode cX1_trueSets 16 = .ok (.invokestatic 42, 3) := by decide +kernel
theorem dX1_trueSets_19 : decode cX1_trueSets 19 = .ok (.iadd, 1) := by decide +kernel
theorem dX1_trueSets_20 : decode cX1_trueSets 20 = .ok (.istore_n 2, 1) := by decide +kernel
theorem dX1_trueSets_21 : decode cX1_trueSets 21 = .ok (.iinc 3 1, 3) := by decide +kernel
theorem dX1_trueSets_24 : decode cX1_trueSets 24 = .ok (.goto (-20), 3) := by decide +kernel
theorem dX1_trueSets_27 : decode cX1_trueSets 27 = .ok (.iload_n 2, 1) := by decide +kernel
theorem dX1_trueSets_28 : decode cX1_trueSets 28 = .ok (.ireturn, 1) := by decide +kernel
theorem dX1_hasParts_0 : decode cX1_hasParts 0 = .ok (.iload_n 1, 1) := by decide +kernel
theorem dX1_hasParts_1 : decode cX1_hasParts 1 = .ok (.ifCond .ne 19, 3) := by decide +kernel
theorem dX1_hasParts_4 : decode cX1_hasParts 4 = .ok (.iload_n 2, 1) := by decide +kernel
theorem dX1_hasParts_5 : decode cX1_hasParts 5 = .ok (.ifCond .lt 13, 3) := by decide +kernel
theorem dX1_hasParts_8 : decode cX1_hasParts 8 = .ok (.iload_n 2, 1) := by decide +kernel
theorem dX1_hasParts_9 : decode cX1_hasParts 9 = .ok (.bipush 8, 2) := by decide +kernel
theorem dX1_hasParts_11 : decode cX1_hasParts 11 = .ok (.if_icmp .ge 7, 3) := by decide +kernel
theorem dX1_hasParts_14 : decode cX1_hasParts 14 = .ok (.iconst 1, 1) := by decide +kernel
theorem dX1_hasParts_15 : decode cX1_hasParts 15 = .ok (.goto 4, 3) := by decide +kernel
theorem dX1_hasParts_18 : decode cX1_hasParts 18 = .ok (.iconst 0, 1) := by decide +kernel
theorem dX1_hasParts_19 : decode cX1_hasParts 19 = .ok (.ireturn, 1) := by decide +kernel
theorem dX1_hasParts_20 : decode cX1_hasParts 20 = .ok (.iload_n 1, 1) := by decide +kernel
theorem dX1_hasParts_21 : decode cX1_hasParts 21 = .ok (.iconst 1, 1) := by decide +kernel
theorem dX1_hasParts_22 : decode cX1_hasParts 22 = .ok (.if_icmp .ne 5, 3) := by decide +kernel
theorem dX1_hasParts_25 : decode cX1_hasParts 25 = .ok (.iconst 1, 1) := by decide +kernel
theorem dX1_hasParts_26 : decode cX1_hasParts 26 = .ok (.ireturn, 1) := by decide +kernel
theorem dX1_hasParts_27 : decode cX1_hasParts 27 = .ok (.aload_n 0, 1) := by decide +kernel
theorem dX1_hasParts_28 : decode cX1_hasParts 28 = .ok (.iload_n 2, 1) := by decide +kernel
theorem dX1_hasParts_29 : decode cX1_hasParts 29 = .ok (.invokevirtual 48, 3) := by decide +kernel
theorem dX1_hasParts_32 : decode cX1_hasParts 32 = .ok (.ifCond .eq 20, 3) := by decide +kernel
theorem dX1_hasParts_35 : decode cX1_hasParts 35 = .ok (.iload_n 1, 1) := by decide +kernel
theorem dX1_hasParts_36 : decode cX1_hasParts 36 = .ok (.iconst 2, 1) := by decide +kernel
theorem dX1_hasParts_37 : decode cX1_hasParts 37 = .ok (.if_icmp .eq 11, 3) := by decide +kernel
theorem dX1_hasParts_40 : decode cX1_hasParts 40 = .ok (.aload_n 0, 1) := by decide +kernel
theorem dX1_hasParts_41 : decode cX1_hasParts 41 = .ok (.iload_n 3, 1) := by decide +kernel
theorem dX1_hasParts_42 : decode cX1_hasParts 42 = .ok (.invokevirtual 48, 3) := by decide +kernel
theorem dX1_hasParts_45 : decode cX1_hasParts 45 = .ok (.ifCond .eq 7, 3) := by decide +kernel
theorem dX1_hasParts_48 : decode cX1_hasParts 48 = .ok (.iconst 1, 1) := by decide +kernel
theorem dX1_hasParts_49 : decode cX1_hasParts 49 = .ok (.goto 4, 3) := by decide +kernel
theorem dX1_hasParts_52 : decode cX1_hasParts 52 = .ok (.iconst 0, 1) := by decide +kernel
theorem dX1_hasParts_53 : decode cX1_hasParts 53 = .ok (.ireturn, 1) := by decide +kernel
theorem dX1_number_0 : decode cX1_number 0 = .ok (.aload_n 0, 1) := by decide +kernel
theorem dX1_number_1 : decode cX1_number 1 = .ok (.iload_n 1, 1) := by decide +kernel
theorem dX1_number_2 : decode cX1_number 2 = .ok (.iload_n 2, 1) := by decide +kernel
theorem dX1_number_3 : decode cX1_number 3 = .ok (.iload_n 3, 1) := by decide +kernel
theorem dX1_number_4 : decode cX1_number 4 = .ok (.invokevirtual 52, 3) := by decide +kernel
theorem dX1_number_7 : decode cX1_number 7 = .ok (.ifCond .ne 5, 3) := by decide +kernel
theorem dX1_number_10 : decode cX1_number 10 = .ok (.iconst (-1), 1) := by decide +kernel
theorem dX1_number_11 : decode cX1_number 11 = .ok (.ireturn, 1) := by decide +kernel
theorem dX1_number_12 : decode cX1_number 12 = .ok (.iload_n 1, 1) := by decide +kernel
theorem dX1_number_13 : decode cX1_number 13 = .ok (.iconst 1, 1) := by decide +kernel
theorem dX1_number_14 : decode cX1_number 14 = .ok (.if_icmp .ne 7, 3) := by decide +kernel
theorem dX1_number_17 : decode cX1_number 17 = .ok (.iconst (-1), 1) := by decide +kernel
theorem dX1_number_18 : decode cX1_number 18 = .ok (.goto 4, 3) := by decide +kernel
theorem dX1_number_21 : decode cX1_number 21 = .ok (.iload_n 2, 1) := by decide +kernel
theorem dX1_number_22 : decode cX1_number 22 = .ok (.istore 4, 2) := by decide +kernel
theorem dX1_number_24 : decode cX1_number 24 = .ok (.iload_n 1, 1) := by decide +kernel
theorem dX1_number_25 : decode cX1_number 25 = .ok (.iconst 3, 1) := by decide +kernel
theorem dX1_number_26 : decode cX1_number 26 = .ok (.if_icmp .lt 7, 3) := by decide +kernel
theorem dX1_number_29 : decode cX1_number 29 = .ok (.iload_n 3, 1) := by decide +kernel
theorem dX1_number_30 : decode cX1_number 30 = .ok (.goto 4, 3) := by decide +kernel
theorem dX1_number_33 : decode cX1_number 33 = .ok (.iconst (-1), 1) := by decide +kernel
theorem dX1_number_34 : decode cX1_number 34 = .ok (.istore 5, 2) := by decide +kernel
theorem dX1_number_36 : decode cX1_number 36 = .ok (.aload_n 0, 1) := by decide +kernel
theorem dX1_number_37 : decode cX1_number 37 = .ok (.iload_n 1, 1) := by decide +kernel
theorem dX1_number_38 : decode cX1_number 38 = .ok (.iload 4, 2) := by decide +kernel
theorem dX1_number_40 : decode cX1_number 40 = .ok (.iload 5, 2) := by decide +kernel
theorem dX1_number_42 : decode cX1_number 42 = .ok (.invokevirtual 56, 3) := by decide +kernel
theorem dX1_number_45 : decode cX1_number 45 = .ok (.istore 6, 2) := by decide +kernel
theorem dX1_number_47 : decode cX1_number 47 = .ok (.iload 6, 2) := by decide +kernel
theorem dX1_number_49 : decode cX1_number 49 = .ok (.ifCond .ge 13, 3) := by decide +kernel
theorem dX1_number_52 : decode cX1_number 52 = .ok (.aload_n 0, 1) := by decide +kernel
theorem dX1_number_53 : decode cX1_number 53 = .ok (.getfield 34, 3) := by decide +kernel
theorem dX1_number_56 : decode cX1_number 56 = .ok (.sipush 240, 3) := by decide +kernel
theorem dX1_number_59 : decode cX1_number 59 = .ok (.if_icmp .lt 6, 3) := by decide +kernel
theorem dX1_number_62 : decode cX1_number 62 = .ok (.iload 6, 2) := by decide +kernel
theorem dX1_number_64 : decode cX1_number 64 = .ok (.ireturn, 1) := by decide +kernel
theorem dX1_number_65 : decode cX1_number 65 = .ok (.aload_n 0, 1) := by decide +kernel
theorem dX1_number_66 : decode cX1_number 66 = .ok (.iload_n 1, 1) := by decide +kernel
theorem dX1_number_67 : decode cX1_number 67 = .ok (.iload 4, 2) := by decide +kernel
theorem dX1_number_69 : decode cX1_number 69 = .ok (.iload 5, 2) := by decide +kernel
theorem dX1_number_71 : decode cX1_number 71 = .ok (.invokevirtual 60, 3) := by decide +kernel
theorem dX1_number_74 : decode cX1_number 74 = .ok (.aload_n 0, 1) := by decide +kernel
theorem dX1_number_75 : decode cX1_number 75 = .ok (.getfield 34, 3) := by decide +kernel
theorem dX1_number_78 : decode cX1_number 78 = .ok (.iconst 1, 1) := by decide +kernel
theorem dX1_number_79 : decode cX1_number 79 = .ok (.isub, 1) := by decide +kernel
theorem dX1_number_80 : decode cX1_number 80 = .ok (.ireturn, 1) := by decide +kernel
theorem dX1_find_0 : decode cX1_find 0 = .ok (.iconst 0, 1) := by decide +kernel
theorem dX1_find_1 : decode cX1_find 1 = .ok (.istore 4, 2) := by decide +kernel
theorem dX1_find_3 : decode cX1_find 3 = .ok (.iload 4, 2) := by decide +kernel
theorem dX1_find_5 : decode cX1_find 5 = .ok (.aload_n 0, 1) := by decide +kernel
theorem dX1_find_6 : decode cX1_find 6 = .ok (.getfield 34, 3) := by decide +kernel
theorem dX1_find_9 : decode cX1_find 9 = .ok (.if_icmp .ge 45, 3) := by decide +kernel
theorem dX1_find_12 : decode cX1_find 12 = .ok (.aload_n 0, 1) := by decide +kernel
theorem dX1_find_13 : decode cX1_find 13 = .ok (.getfield 9, 3) := by decide +kernel
theorem dX1_find_16 : decode cX1_find 16 = .ok (.iload 4, 2) := by decide +kernel
theorem dX1_find_18 : decode cX1_find 18 = .ok (.iaload, 1) := by decide +kernel
theorem dX1_find_19 : decode cX1_find 19 = .ok (.iload_n 1, 1) := by decide +kernel
theorem dX1_find_20 : decode cX1_find 20 = .ok (.if_icmp .ne 28, 3) := by decide +kernel
theorem dX1_find_23 : decode cX1_find 23 = .ok (.aload_n 0, 1) := by decide +kernel
theorem dX1_find_24 : decode cX1_find 24 = .ok (.getfield 15, 3) := by decide +kernel
theorem dX1_find_27 : decode cX1_find 27 = .ok (.iload 4, 2) := by decide +kernel
theorem dX1_find_29 : decode cX1_find 29 = .ok (.iaload, 1) := by decide +kernel
theorem dX1_find_30 : decode cX1_find 30 = .ok (.iload_n 2, 1) := by decide +kernel
theorem dX1_find_31 : decode cX1_find 31 = .ok (.if_icmp .ne 17, 3) := by decide +kernel
theorem dX1_find_34 : decode cX1_find 34 = .ok (.aload_n 0, 1) := by decide +kernel
theorem dX1_find_35 : decode cX1_find 35 = .ok (.getfield 18, 3) := by decide +kernel
theorem dX1_find_38 : decode cX1_find 38 = .ok (.iload 4, 2) := by decide +kernel
theorem dX1_find_40 : decode cX1_find 40 = .ok (.iaload, 1) := by decide +kernel
theorem dX1_find_41 : decode cX1_find 41 = .ok (.iload_n 3, 1) := by decide +kernel
theorem dX1_find_42 : decode cX1_find 42 = .ok (.if_icmp .ne 6, 3) := by decide +kernel
theorem dX1_find_45 : decode cX1_find 45 = .ok (.iload 4, 2) := by decide +kernel
theorem dX1_find_47 : decode cX1_find 47 = .ok (.ireturn, 1) := by decide +kernel
theorem dX1_find_48 : decode cX1_find 48 = .ok (.iinc 4 1, 3) := by decide +kernel
theorem dX1_find_51 : decode cX1_find 51 = .ok (.goto (-48), 3) := by decide +kernel
theorem dX1_find_54 : decode cX1_find 54 = .ok (.iconst (-1), 1) := by decide +kernel
theorem dX1_find_55 : decode cX1_find 55 = .ok (.ireturn, 1) := by decide +kernel
theorem dX1_add_0 : decode cX1_add 0 = .ok (.aload_n 0, 1) := by decide +kernel
theorem dX1_add_1 : decode cX1_add 1 = .ok (.getfield 34, 3) := by decide +kernel
theorem dX1_add_4 : decode cX1_add 4 = .ok (.istore 4, 2) := by decide +kernel
theorem dX1_add_6 : decode cX1_add 6 = .ok (.iload 4, 2) := by decide +kernel
theorem dX1_add_8 : decode cX1_add 8 = .ok (.ifCond .lt 11, 3) := by decide +kernel
theorem dX1_add_11 : decode cX1_add 11 = .ok (.iload 4, 2) := by decide +kernel
theorem dX1_add_13 : decode cX1_add 13 = .ok (.sipush 240, 3) := by decide +kernel
theorem dX1_add_16 : decode cX1_add 16 = .ok (.if_icmp .lt 4, 3) := by decide +kernel
theorem dX1_add_19 : decode cX1_add 19 = .ok (.return_, 1) := by decide +kernel
theorem dX1_add_20 : decode cX1_add 20 = .ok (.iload_n 1, 1) := by decide +kernel
theorem dX1_add_21 : decode cX1_add 21 = .ok (.iconst 2, 1) := by decide +kernel
theorem dX1_add_22 : decode cX1_add 22 = .ok (.if_icmp .lt 7, 3) := by decide +kernel
theorem dX1_add_25 : decode cX1_add 25 = .ok (.iload_n 2, 1) := by decide +kernel
theorem dX1_add_26 : decode cX1_add 26 = .ok (.goto 4, 3) := by decide +kernel
theorem dX1_add_29 : decode cX1_add 29 = .ok (.iconst (-1), 1) := by decide +kernel
theorem dX1_add_30 : decode cX1_add 30 = .ok (.istore 5, 2) := by decide +kernel
theorem dX1_add_32 : decode cX1_add 32 = .ok (.aload_n 0, 1) := by decide +kernel
theorem dX1_add_33 : decode cX1_add 33 = .ok (.getfield 9, 3) := by decide +kernel
theorem dX1_add_36 : decode cX1_add 36 = .ok (.iload 4, 2) := by decide +kernel
theorem dX1_add_38 : decode cX1_add 38 = .ok (.iload_n 1, 1) := by decide +kernel
theorem dX1_add_39 : decode cX1_add 39 = .ok (.iastore, 1) := by decide +kernel
theorem dX1_add_40 : decode cX1_add 40 = .ok (.aload_n 0, 1) := by decide +kernel
theorem dX1_add_41 : decode cX1_add 41 = .ok (.getfield 15, 3) := by decide +kernel
theorem dX1_add_44 : decode cX1_add 44 = .ok (.iload 4, 2) := by decide +kernel
theorem dX1_add_46 : decode cX1_add 46 = .ok (.iload_n 2, 1) := by decide +kernel
theorem dX1_add_47 : decode cX1_add 47 = .ok (.iastore, 1) := by decide +kernel
theorem dX1_add_48 : decode cX1_add 48 = .ok (.aload_n 0, 1) := by decide +kernel
theorem dX1_add_49 : decode cX1_add 49 = .ok (.getfield 18, 3) := by decide +kernel
theorem dX1_add_52 : decode cX1_add 52 = .ok (.iload 4, 2) := by decide +kernel
theorem dX1_add_54 : decode cX1_add 54 = .ok (.iload_n 3, 1) := by decide +kernel
theorem dX1_add_55 : decode cX1_add 55 = .ok (.iastore, 1) := by decide +kernel
theorem dX1_add_56 : decode cX1_add 56 = .ok (.aload_n 0, 1) := by decide +kernel
theorem dX1_add_57 : decode cX1_add 57 = .ok (.getfield 21, 3) := by decide +kernel
theorem dX1_add_60 : decode cX1_add 60 = .ok (.iload 4, 2) := by decide +kernel
theorem dX1_add_62 : decode cX1_add 62 = .ok (.iload_n 1, 1) := by decide +kernel
theorem dX1_add_63 : decode cX1_add 63 = .ok (.ifCond .ne 9, 3) := by decide +kernel
theorem dX1_add_66 : decode cX1_add 66 = .ok (.iconst 1, 1) := by decide +kernel
theorem dX1_add_67 : decode cX1_add 67 = .ok (.iload_n 2, 1) := by decide +kernel
theorem dX1_add_68 : decode cX1_add 68 = .ok (.ishl, 1) := by decide +kernel
theorem dX1_add_69 : decode cX1_add 69 = .ok (.goto 15, 3) := by decide +kernel
theorem dX1_add_72 : decode cX1_add 72 = .ok (.aload_n 0, 1) := by decide +kernel
theorem dX1_add_73 : decode cX1_add 73 = .ok (.iload 5, 2) := by decide +kernel
theorem dX1_add_75 : decode cX1_add 75 = .ok (.invokevirtual 64, 3) := by decide +kernel
theorem dX1_add_78 : decode cX1_add 78 = .ok (.aload_n 0, 1) := by decide +kernel
theorem dX1_add_79 : decode cX1_add 79 = .ok (.iload_n 3, 1) := by decide +kernel
theorem dX1_add_80 : decode cX1_add 80 = .ok (.invokevirtual 64, 3) := by decide +kernel
theorem dX1_add_83 : decode cX1_add 83 = .ok (.ior, 1) := by decide +kernel
theorem dX1_add_84 : decode cX1_add 84 = .ok (.iastore, 1) := by decide +kernel
theorem dX1_add_85 : decode cX1_add 85 = .ok (.aload_n 0, 1) := by decide +kernel
theorem dX1_add_86 : decode cX1_add 86 = .ok (.getfield 24, 3) := by decide +kernel
theorem dX1_add_89 : decode cX1_add 89 = .ok (.iload 4, 2) := by decide +kernel
theorem dX1_add_91 : decode cX1_add 91 = .ok (.ldc 68, 2) := by decide +kernel
theorem dX1_add_93 : decode cX1_add 93 = .ok (.iconst 1, 1) := by decide +kernel
theorem dX1_add_94 : decode cX1_add 94 = .ok (.aload_n 0, 1) := by decide +kernel
theorem dX1_add_95 : decode cX1_add 95 = .ok (.iload 5, 2) := by decide +kernel
theorem dX1_add_97 : decode cX1_add 97 = .ok (.invokevirtual 69, 3) := by decide +kernel
theorem dX1_add_100 : decode cX1_add 100 = .ok (.iadd, 1) := by decide +kernel
theorem dX1_add_101 : decode cX1_add 101 = .ok (.aload_n 0, 1) := by decide +kernel
theorem dX1_add_102 : decode cX1_add 102 = .ok (.iload_n 3, 1) := by decide +kernel
theorem dX1_add_103 : decode cX1_add 103 = .ok (.invokevirtual 69, 3) := by decide +kernel
theorem dX1_add_106 : decode cX1_add 106 = .ok (.iadd, 1) := by decide +kernel
theorem dX1_add_107 : decode cX1_add 107 = .ok (.invokestatic 72, 3) := by decide +kernel
theorem dX1_add_110 : decode cX1_add 110 = .ok (.iastore, 1) := by decide +kernel
theorem dX1_add_111 : decode cX1_add 111 = .ok (.iload_n 1, 1) := by decide +kernel
theorem dX1_add_112 : decode cX1_add 112 = .ok (.aload_n 0, 1) := by decide +kernel
theorem dX1_add_113 : decode cX1_add 113 = .ok (.iload 5, 2) := by decide +kernel
theorem dX1_add_115 : decode cX1_add 115 = .ok (.invokevirtual 78, 3) := by decide +kernel
theorem dX1_add_118 : decode cX1_add 118 = .ok (.iconst 0, 1) := by decide +kernel
theorem dX1_add_119 : decode cX1_add 119 = .ok (.invokestatic 81, 3) := by decide +kernel
theorem dX1_add_122 : decode cX1_add 122 = .ok (.ifCond .eq 7, 3) := by decide +kernel
theorem dX1_add_125 : decode cX1_add 125 = .ok (.iconst 2, 1) := by decide +kernel
theorem dX1_add_126 : decode cX1_add 126 = .ok (.goto 4, 3) := by decide +kernel
theorem dX1_add_129 : decode cX1_add 129 = .ok (.iconst 0, 1) := by decide +kernel
theorem dX1_add_130 : decode cX1_add 130 = .ok (.iload_n 1, 1) := by decide +kernel
theorem dX1_add_131 : decode cX1_add 131 = .ok (.aload_n 0, 1) := by decide +kernel
theorem dX1_add_132 : decode cX1_add 132 = .ok (.iload_n 3, 1) := by decide +kernel
theorem dX1_add_133 : decode cX1_add 133 = .ok (.invokevirtual 78, 3) := by decide +kernel
theorem dX1_add_136 : decode cX1_add 136 = .ok (.iconst 1, 1) := by decide +kernel
theorem dX1_add_137 : decode cX1_add 137 = .ok (.invokestatic 81, 3) := by decide +kernel
theorem dX1_add_140 : decode cX1_add 140 = .ok (.ifCond .eq 7, 3) := by decide +kernel
theorem dX1_add_143 : decode cX1_add 143 = .ok (.iconst 2, 1) := by decide +kernel
theorem dX1_add_144 : decode cX1_add 144 = .ok (.goto 4, 3) := by decide +kernel
theorem dX1_add_147 : decode cX1_add 147 = .ok (.iconst 0, 1) := by decide +kernel
theorem dX1_add_148 : decode cX1_add 148 = .ok (.iadd, 1) := by decide +kernel
theorem dX1_add_149 : decode cX1_add 149 = .ok (.istore 6, 2) := by decide +kernel
theorem dX1_add_151 : decode cX1_add 151 = .ok (.aload_n 0, 1) := by decide +kernel
theorem dX1_add_152 : decode cX1_add 152 = .ok (.getfield 27, 3) := by decide +kernel
theorem dX1_add_155 : decode cX1_add 155 = .ok (.iload 4, 2) := by decide +kernel
theorem dX1_add_157 : decode cX1_add 157 = .ok (.ldc 68, 2) := by decide +kernel
theorem dX1_add_159 : decode cX1_add 159 = .ok (.iconst 1, 1) := by decide +kernel
theorem dX1_add_160 : decode cX1_add 160 = .ok (.aload_n 0, 1) := by decide +kernel
theorem dX1_add_161 : decode cX1_add 161 = .ok (.iload 5, 2) := by decide +kernel
theorem dX1_add_163 : decode cX1_add 163 = .ok (.invokevirtual 85, 3) := by decide +kernel
theorem dX1_add_166 : decode cX1_add 166 = .ok (.iadd, 1) := by decide +kernel
theorem dX1_add_167 : decode cX1_add 167 = .ok (.aload_n 0, 1) := by decide +kernel
theorem dX1_add_168 : decode cX1_add 168 = .ok (.iload_n 3, 1) := by decide +kernel
theorem dX1_add_169 : decode cX1_add 169 = .ok (.invokevirtual 85, 3) := by decide +kernel
theorem dX1_add_172 : decode cX1_add 172 = .ok (.iadd, 1) := by decide +kernel
theorem dX1_add_173 : decode cX1_add 173 = .ok (.iload 6, 2) := by decide +kernel
theorem dX1_add_175 : decode cX1_add 175 = .ok (.iadd, 1) := by decide +kernel
theorem dX1_add_176 : decode cX1_add 176 = .ok (.invokestatic 72, 3) := by decide +kernel
theorem dX1_add_179 : decode cX1_add 179 = .ok (.iastore, 1) := by decide +kernel
theorem dX1_add_180 : decode cX1_add 180 = .ok (.iconst 0, 1) := by decide +kernel
theorem dX1_add_181 : decode cX1_add 181 = .ok (.istore 7, 2) := by decide +kernel
theorem dX1_add_183 : decode cX1_add 183 = .ok (.iload 7, 2) := by decide +kernel
theorem dX1_add_185 : decode cX1_add 185 = .ok (.iconst 4, 1) := by decide +kernel
theorem dX1_add_186 : decode cX1_add 186 = .ok (.if_icmp .ge 53, 3) := by decide +kernel
theorem dX1_add_189 : decode cX1_add 189 = .ok (.aload_n 0, 1) := by decide +kernel
theorem dX1_add_190 : decode cX1_add 190 = .ok (.getfield 30, 3) := by decide +kernel
theorem dX1_add_193 : decode cX1_add 193 = .ok (.iload 4, 2) := by decide +kernel
theorem dX1_add_195 : decode cX1_add 195 = .ok (.iconst 4, 1) := by decide +kernel
theorem dX1_add_196 : decode cX1_add 196 = .ok (.imul, 1) := by decide +kernel
theorem dX1_add_197 : decode cX1_add 197 = .ok (.iload 7, 2) := by decide +kernel
theorem dX1_add_199 : decode cX1_add 199 = .ok (.iadd, 1) := by decide +kernel
theorem dX1_add_200 : decode cX1_add 200 = .ok (.iload_n 1, 1) := by decide +kernel
theorem dX1_add_201 : decode cX1_add 201 = .ok (.ifCond .ne 12, 3) := by decide +kernel
theorem dX1_add_204 : decode cX1_add 204 = .ok (.iload_n 2, 1) := by decide +kernel
theorem dX1_add_205 : decode cX1_add 205 = .ok (.iload 7, 2) := by decide +kernel
theorem dX1_add_207 : decode cX1_add 207 = .ok (.invokestatic 88, 3) := by decide +kernel
theorem dX1_add_210 : decode cX1_add 210 = .ok (.goto 22, 3) := by decide +kernel
theorem dX1_add_213 : decode cX1_add 213 = .ok (.iload_n 1, 1) := by decide +kernel
theorem dX1_add_214 : decode cX1_add 214 = .ok (.aload_n 0, 1) := by decide +kernel
theorem dX1_add_215 : decode cX1_add 215 = .ok (.iload 5, 2) := by decide +kernel
theorem dX1_add_217 : decode cX1_add 217 = .ok (.iload 7, 2) := by decide +kernel
theorem dX1_add_219 : decode cX1_add 219 = .ok (.invokevirtual 38, 3) := by decide +kernel
theorem dX1_add_222 : decode cX1_add 222 = .ok (.aload_n 0, 1) := by decide +kernel
theorem dX1_add_223 : decode cX1_add 223 = .ok (.iload_n 3, 1) := by decide +kernel
theorem dX1_add_224 : decode cX1_add 224 = .ok (.iload 7, 2) := by decide +kernel
theorem dX1_add_226 : decode cX1_add 226 = .ok (.invokevirtual 38, 3) := by decide +kernel
theorem dX1_add_229 : decode cX1_add 229 = .ok (.invokestatic 91, 3) := by decide +kernel
theorem dX1_add_232 : decode cX1_add 232 = .ok (.lastore, 1) := by decide +kernel
theorem dX1_add_233 : decode cX1_add 233 = .ok (.iinc 7 1, 3) := by decide +kernel
theorem dX1_add_236 : decode cX1_add 236 = .ok (.goto (-53), 3) := by decide +kernel
theorem dX1_add_239 : decode cX1_add 239 = .ok (.aload_n 0, 1) := by decide +kernel
theorem dX1_add_240 : decode cX1_add 240 = .ok (.dup, 1) := by decide +kernel
theorem dX1_add_241 : decode cX1_add 241 = .ok (.getfield 34, 3) := by decide +kernel
theorem dX1_add_244 : decode cX1_add 244 = .ok (.iconst 1, 1) := by decide +kernel
theorem dX1_add_245 : decode cX1_add 245 = .ok (.iadd, 1) := by decide +kernel
theorem dX1_add_246 : decode cX1_add 246 = .ok (.putfield 34, 3) := by decide +kernel
theorem dX1_add_249 : decode cX1_add 249 = .ok (.return_, 1) := by decide +kernel
theorem dX1_truthOfLetter_0 : decode cX1_truthOfLetter 0 = .ok (.iload_n 0, 1) := by decide +kernel
theorem dX1_truthOfLetter_1 : decode cX1_truthOfLetter 1 = .ok (.ifCond .lt 17, 3) := by decide +kernel
theorem dX1_truthOfLetter_4 : decode cX1_truthOfLetter 4 = .ok (.iload_n 0, 1) := by decide +kernel
theorem dX1_truthOfLetter_5 : decode cX1_truthOfLetter 5 = .ok (.getstatic 95, 3) := by decide +kernel
theorem dX1_truthOfLetter_8 : decode cX1_truthOfLetter 8 = .ok (.arraylength, 1) := by decide +kernel
theorem dX1_truthOfLetter_9 : decode cX1_truthOfLetter 9 = .ok (.if_icmp .ge 9, 3) := by decide +kernel
theorem dX1_truthOfLetter_12 : decode cX1_truthOfLetter 12 = .ok (.getstatic 95, 3) := by decide +kernel
theorem dX1_truthOfLetter_15 : decode cX1_truthOfLetter 15 = .ok (.iload_n 0, 1) := by decide +kernel
theorem dX1_truthOfLetter_16 : decode cX1_truthOfLetter 16 = .ok (.laload, 1) := by decide +kernel
theorem dX1_truthOfLetter_17 : decode cX1_truthOfLetter 17 = .ok (.lreturn, 1) := by decide +kernel
theorem dX1_truthOfLetter_18 : decode cX1_truthOfLetter 18 = .ok (.iload_n 1, 1) := by decide +kernel
theorem dX1_truthOfLetter_19 : decode cX1_truthOfLetter 19 = .ok (.iload_n 0, 1) := by decide +kernel
theorem dX1_truthOfLetter_20 : decode cX1_truthOfLetter 20 = .ok (.getstatic 95, 3) := by decide +kernel
theorem dX1_truthOfLetter_23 : decode cX1_truthOfLetter 23 = .ok (.arraylength, 1) := by decide +kernel
theorem dX1_truthOfLetter_24 : decode cX1_truthOfLetter 24 = .ok (.isub, 1) := by decide +kernel
theorem dX1_truthOfLetter_25 : decode cX1_truthOfLetter 25 = .ok (.ishr, 1) := by decide +kernel
theorem dX1_truthOfLetter_26 : decode cX1_truthOfLetter 26 = .ok (.iconst 1, 1) := by decide +kernel
theorem dX1_truthOfLetter_27 : decode cX1_truthOfLetter 27 = .ok (.iand, 1) := by decide +kernel
theorem dX1_truthOfLetter_28 : decode cX1_truthOfLetter 28 = .ok (.ifCond .eq 9, 3) := by decide +kernel
theorem dX1_truthOfLetter_31 : decode cX1_truthOfLetter 31 = .ok (.ldc2_w 98, 3) := by decide +kernel
theorem dX1_truthOfLetter_34 : decode cX1_truthOfLetter 34 = .ok (.goto 4, 3) := by decide +kernel
theorem dX1_truthOfLetter_37 : decode cX1_truthOfLetter 37 = .ok (.lconst 0, 1) := by decide +kernel
theorem dX1_truthOfLetter_38 : decode cX1_truthOfLetter 38 = .ok (.lreturn, 1) := by decide +kernel
theorem dX1_truthOfParts_0 : decode cX1_truthOfParts 0 = .ok (.iload_n 0, 1) := by decide +kernel
theorem dX1_truthOfParts_1 : decode cX1_truthOfParts 1 = .ok (.tableswitch 53 2 5 #[31, 37, 41, 45], 31) := by decide +kernel
theorem dX1_truthOfParts_32 : decode cX1_truthOfParts 32 = .ok (.lload_n 1, 1) := by decide +kernel
theorem dX1_truthOfParts_33 : decode cX1_truthOfParts 33 = .ok (.ldc2_w 98, 3) := by decide +kernel
theorem dX1_truthOfParts_36 : decode cX1_truthOfParts 36 = .ok (.lxor, 1) := by decide +kernel
theorem dX1_truthOfParts_37 : decode cX1_truthOfParts 37 = .ok (.lreturn, 1) := by decide +kernel
theorem dX1_truthOfParts_38 : decode cX1_truthOfParts 38 = .ok (.lload_n 1, 1) := by decide +kernel
theorem dX1_truthOfParts_39 : decode cX1_truthOfParts 39 = .ok (.lload_n 3, 1) := by decide +kernel
theorem dX1_truthOfParts_40 : decode cX1_truthOfParts 40 = .ok (.land, 1) := by decide +kernel
theorem dX1_truthOfParts_41 : decode cX1_truthOfParts 41 = .ok (.lreturn, 1) := by decide +kernel
theorem dX1_truthOfParts_42 : decode cX1_truthOfParts 42 = .ok (.lload_n 1, 1) := by decide +kernel
theorem dX1_truthOfParts_43 : decode cX1_truthOfParts 43 = .ok (.lload_n 3, 1) := by decide +kernel
theorem dX1_truthOfParts_44 : decode cX1_truthOfParts 44 = .ok (.lor, 1) := by decide +kernel
theorem dX1_truthOfParts_45 : decode cX1_truthOfParts 45 = .ok (.lreturn, 1) := by decide +kernel
theorem dX1_truthOfParts_46 : decode cX1_truthOfParts 46 = .ok (.lload_n 1, 1) := by decide +kernel
theorem dX1_truthOfParts_47 : decode cX1_truthOfParts 47 = .ok (.ldc2_w 98, 3) := by decide +kernel
theorem dX1_truthOfParts_50 : decode cX1_truthOfParts 50 = .ok (.lxor, 1) := by decide +kernel
theorem dX1_truthOfParts_51 : decode cX1_truthOfParts 51 = .ok (.lload_n 3, 1) := by decide +kernel
theorem dX1_truthOfParts_52 : decode cX1_truthOfParts 52 = .ok (.lor, 1) := by decide +kernel
theorem dX1_truthOfParts_53 : decode cX1_truthOfParts 53 = .ok (.lreturn, 1) := by decide +kernel
theorem dX1_truthOfParts_54 : decode cX1_truthOfParts 54 = .ok (.lconst 0, 1) := by decide +kernel
theorem dX1_truthOfParts_55 : decode cX1_truthOfParts 55 = .ok (.lreturn, 1) := by decide +kernel
theorem dX1_needsBrackets_0 : decode cX1_needsBrackets 0 = .ok (.iload_n 0, 1) := by decide +kernel
theorem dX1_needsBrackets_1 : decode cX1_needsBrackets 1 = .ok (.tableswitch 112 2 5 #[31, 52, 77, 97], 31) := by decide +kernel
theorem dX1_needsBrackets_32 : decode cX1_needsBrackets 32 = .ok (.iload_n 1, 1) := by decide +kernel
theorem dX1_needsBrackets_33 : decode cX1_needsBrackets 33 = .ok (.iconst 3, 1) := by decide +kernel
theorem dX1_needsBrackets_34 : decode cX1_needsBrackets 34 = .ok (.if_icmp .eq 13, 3) := by decide +kernel
theorem dX1_needsBrackets_37 : decode cX1_needsBrackets 37 = .ok (.iload_n 1, 1) := by decide +kernel
theorem dX1_needsBrackets_38 : decode cX1_needsBrackets 38 = .ok (.iconst 4, 1) := by decide +kernel
theorem dX1_needsBrackets_39 : decode cX1_needsBrackets 39 = .ok (.if_icmp .eq 8, 3) := by decide +kernel
theorem dX1_needsBrackets_42 : decode cX1_needsBrackets 42 = .ok (.iload_n 1, 1) := by decide +kernel
theorem dX1_needsBrackets_43 : decode cX1_needsBrackets 43 = .ok (.iconst 5, 1) := by decide +kernel
theorem dX1_needsBrackets_44 : decode cX1_needsBrackets 44 = .ok (.if_icmp .ne 7, 3) := by decide +kernel
theorem dX1_needsBrackets_47 : decode cX1_needsBrackets 47 = .ok (.iconst 1, 1) := by decide +kernel
theorem dX1_needsBrackets_48 : decode cX1_needsBrackets 48 = .ok (.goto 4, 3) := by decide +kernel
theorem dX1_needsBrackets_51 : decode cX1_needsBrackets 51 = .ok (.iconst 0, 1) := by decide +kernel
theorem dX1_needsBrackets_52 : decode cX1_needsBrackets 52 = .ok (.ireturn, 1) := by decide +kernel
theorem dX1_needsBrackets_53 : decode cX1_needsBrackets 53 = .ok (.iload_n 1, 1) := by decide +kernel
theorem dX1_needsBrackets_54 : decode cX1_needsBrackets 54 = .ok (.iconst 4, 1) := by decide +kernel
theorem dX1_needsBrackets_55 : decode cX1_needsBrackets 55 = .ok (.if_icmp .eq 17, 3) := by decide +kernel
theorem dX1_needsBrackets_58 : decode cX1_needsBrackets 58 = .ok (.iload_n 1, 1) := by decide +kernel
theorem dX1_needsBrackets_59 : decode cX1_needsBrackets 59 = .ok (.iconst 5, 1) := by decide +kernel
theorem dX1_needsBrackets_60 : decode cX1_needsBrackets 60 = .ok (.if_icmp .eq 12, 3) := by decide +kernel
theorem dX1_needsBrackets_63 : decode cX1_needsBrackets 63 = .ok (.iload_n 2, 1) := by decide +kernel
theorem dX1_needsBrackets_64 : decode cX1_needsBrackets 64 = .ok (.ifCond .eq 12, 3) := by decide +kernel
theorem dX1_needsBrackets_67 : decode cX1_needsBrackets 67 = .ok (.iload_n 1, 1) := by decide +kernel
theorem dX1_needsBrackets_68 : decode cX1_needsBrackets 68 = .ok (.iconst 3, 1) := by decide +kernel
theorem dX1_needsBrackets_69 : decode cX1_needsBrackets 69 = .ok (.if_icmp .ne 7, 3) := by decide +kernel
theorem dX1_needsBrackets_72 : decode cX1_needsBrackets 72 = .ok (.iconst 1, 1) := by decide +kernel
theorem dX1_needsBrackets_73 : decode cX1_needsBrackets 73 = .ok (.goto 4, 3) := by decide +kernel
theorem dX1_needsBrackets_76 : decode cX1_needsBrackets 76 = .ok (.iconst 0, 1) := by decide +kernel
theorem dX1_needsBrackets_77 : decode cX1_needsBrackets 77 = .ok (.ireturn, 1) := by decide +kernel
theorem dX1_needsBrackets_78 : decode cX1_needsBrackets 78 = .ok (.iload_n 1, 1) := by decide +kernel
theorem dX1_needsBrackets_79 : decode cX1_needsBrackets 79 = .ok (.iconst 5, 1) := by decide +kernel
theorem dX1_needsBrackets_80 : decode cX1_needsBrackets 80 = .ok (.if_icmp .eq 12, 3) := by decide +kernel
theorem dX1_needsBrackets_83 : decode cX1_needsBrackets 83 = .ok (.iload_n 2, 1) := by decide +kernel
theorem dX1_needsBrackets_84 : decode cX1_needsBrackets 84 = .ok (.ifCond .eq 12, 3) := by decide +kernel
theorem dX1_needsBrackets_87 : decode cX1_needsBrackets 87 = .ok (.iload_n 1, 1) := by decide +kernel
theorem dX1_needsBrackets_88 : decode cX1_needsBrackets 88 = .ok (.iconst 4, 1) := by decide +kernel
theorem dX1_needsBrackets_89 : decode cX1_needsBrackets 89 = .ok (.if_icmp .ne 7, 3) := by decide +kernel
theorem dX1_needsBrackets_92 : decode cX1_needsBrackets 92 = .ok (.iconst 1, 1) := by decide +kernel
theorem dX1_needsBrackets_93 : decode cX1_needsBrackets 93 = .ok (.goto 4, 3) := by decide +kernel
theorem dX1_needsBrackets_96 : decode cX1_needsBrackets 96 = .ok (.iconst 0, 1) := by decide +kernel
theorem dX1_needsBrackets_97 : decode cX1_needsBrackets 97 = .ok (.ireturn, 1) := by decide +kernel
theorem dX1_needsBrackets_98 : decode cX1_needsBrackets 98 = .ok (.iload_n 2, 1) := by decide +kernel
theorem dX1_needsBrackets_99 : decode cX1_needsBrackets 99 = .ok (.ifCond .ne 12, 3) := by decide +kernel
theorem dX1_needsBrackets_102 : decode cX1_needsBrackets 102 = .ok (.iload_n 1, 1) := by decide +kernel
theorem dX1_needsBrackets_103 : decode cX1_needsBrackets 103 = .ok (.iconst 5, 1) := by decide +kernel
theorem dX1_needsBrackets_104 : decode cX1_needsBrackets 104 = .ok (.if_icmp .ne 7, 3) := by decide +kernel
theorem dX1_needsBrackets_107 : decode cX1_needsBrackets 107 = .ok (.iconst 1, 1) := by decide +kernel
theorem dX1_needsBrackets_108 : decode cX1_needsBrackets 108 = .ok (.goto 4, 3) := by decide +kernel
theorem dX1_needsBrackets_111 : decode cX1_needsBrackets 111 = .ok (.iconst 0, 1) := by decide +kernel
theorem dX1_needsBrackets_112 : decode cX1_needsBrackets 112 = .ok (.ireturn, 1) := by decide +kernel
theorem dX1_needsBrackets_113 : decode cX1_needsBrackets 113 = .ok (.iconst 0, 1) := by decide +kernel
theorem dX1_needsBrackets_114 : decode cX1_needsBrackets 114 = .ok (.ireturn, 1) := by decide +kernel
theorem dX2_init_0 : decode cX2_init 0 = .ok (.aload_n 0, 1) := by decide +kernel
theorem dX2_init_1 : decode cX2_init 1 = .ok (.invokespecial 3, 3) := by decide +kernel
theorem dX2_init_4 : decode cX2_init 4 = .ok (.aload_n 0, 1) := by decide +kernel
theorem dX2_init_5 : decode cX2_init 5 = .ok (.sipush 400, 3) := by decide +kernel
theorem dX2_init_8 : decode cX2_init 8 = .ok (.newarray .byte, 2) := by decide +kernel
theorem dX2_init_10 : decode cX2_init 10 = .ok (.putfield 9, 3) := by decide +kernel
theorem dX2_init_13 : decode cX2_init 13 = .ok (.aload_n 0, 1) := by decide +kernel
theorem dX2_init_14 : decode cX2_init 14 = .ok (.sipush 400, 3) := by decide +kernel
theorem dX2_init_17 : decode cX2_init 17 = .ok (.newarray .int, 2) := by decide +kernel
theorem dX2_init_19 : decode cX2_init 19 = .ok (.putfield 15, 3) := by decide +kernel
theorem dX2_init_22 : decode cX2_init 22 = .ok (.aload_n 0, 1) := by decide +kernel
theorem dX2_init_23 : decode cX2_init 23 = .ok (.sipush 400, 3) := by decide +kernel
theorem dX2_init_26 : decode cX2_init 26 = .ok (.newarray .int, 2) := by decide +kernel
theorem dX2_init_28 : decode cX2_init 28 = .ok (.putfield 19, 3) := by decide +kernel
theorem dX2_init_31 : decode cX2_init 31 = .ok (.aload_n 0, 1) := by decide +kernel
theorem dX2_init_32 : decode cX2_init 32 = .ok (.aload_n 1, 1) := by decide +kernel
theorem dX2_init_33 : decode cX2_init 33 = .ok (.putfield 22, 3) := by decide +kernel
theorem dX2_init_36 : decode cX2_init 36 = .ok (.return_, 1) := by decide +kernel
theorem dX2_size_0 : decode cX2_size 0 = .ok (.aload_n 0, 1) := by decide +kernel
theorem dX2_size_1 : decode cX2_size 1 = .ok (.getfield 26, 3) := by decide +kernel
theorem dX2_size_4 : decode cX2_size 4 = .ok (.ireturn, 1) := by decide +kernel
theorem dX2_at_0 : decode cX2_at 0 = .ok (.iload_n 1, 1) := by decide +kernel
theorem dX2_at_1 : decode cX2_at 1 = .ok (.ifCond .lt 20, 3) := by decide +kernel
theorem dX2_at_4 : decode cX2_at 4 = .ok (.iload_n 1, 1) := by decide +kernel
theorem dX2_at_5 : decode cX2_at 5 = .ok (.aload_n 0, 1) := by decide +kernel
theorem dX2_at_6 : decode cX2_at 6 = .ok (.getfield 26, 3) := by decide +kernel
theorem dX2_at_9 : decode cX2_at 9 = .ok (.if_icmp .ge 12, 3) := by decide +kernel
theorem dX2_at_12 : decode cX2_at 12 = .ok (.aload_n 0, 1) := by decide +kernel
theorem dX2_at_13 : decode cX2_at 13 = .ok (.getfield 9, 3) := by decide +kernel
theorem dX2_at_16 : decode cX2_at 16 = .ok (.iload_n 1, 1) := by decide +kernel
theorem dX2_at_17 : decode cX2_at 17 = .ok (.baload, 1) := by decide +kernel
theorem dX2_at_18 : decode cX2_at 18 = .ok (.goto 4, 3) := by decide +kernel
theorem dX2_at_21 : decode cX2_at 21 = .ok (.iconst 0, 1) := by decide +kernel
theorem dX2_at_22 : decode cX2_at 22 = .ok (.ireturn, 1) := by decide +kernel
theorem dX3_init_0 : decode cX3_init 0 = .ok (.aload_n 0, 1) := by decide +kernel
theorem dX3_init_1 : decode cX3_init 1 = .ok (.invokespecial 3, 3) := by decide +kernel
theorem dX3_init_4 : decode cX3_init 4 = .ok (.aload_n 0, 1) := by decide +kernel
theorem dX3_init_5 : decode cX3_init 5 = .ok (.new 9, 3) := by decide +kernel
theorem dX3_init_8 : decode cX3_init 8 = .ok (.dup, 1) := by decide +kernel
theorem dX3_init_9 : decode cX3_init 9 = .ok (.invokespecial 11, 3) := by decide +kernel
theorem dX3_init_12 : decode cX3_init 12 = .ok (.putfield 12, 3) := by decide +kernel
theorem dX3_init_15 : decode cX3_init 15 = .ok (.aload_n 0, 1) := by decide +kernel
theorem dX3_init_16 : decode cX3_init 16 = .ok (.bipush 60, 2) := by decide +kernel
theorem dX3_init_18 : decode cX3_init 18 = .ok (.newarray .int, 2) := by decide +kernel
theorem dX3_init_20 : decode cX3_init 20 = .ok (.putfield 18, 3) := by decide +kernel
theorem dX3_init_23 : decode cX3_init 23 = .ok (.aload_n 0, 1) := by decide +kernel
theorem dX3_init_24 : decode cX3_init 24 = .ok (.bipush 60, 2) := by decide +kernel
theorem dX3_init_26 : decode cX3_init 26 = .ok (.newarray .int, 2) := by decide +kernel
theorem dX3_init_28 : decode cX3_init 28 = .ok (.putfield 22, 3) := by decide +kernel
theorem dX3_init_31 : decode cX3_init 31 = .ok (.aload_n 0, 1) := by decide +kernel
theorem dX3_init_32 : decode cX3_init 32 = .ok (.sipush 180, 3) := by decide +kernel
theorem dX3_init_35 : decode cX3_init 35 = .ok (.newarray .int, 2) := by decide +kernel
theorem dX3_init_37 : decode cX3_init 37 = .ok (.putfield 25, 3) := by decide +kernel
theorem dX3_init_40 : decode cX3_init 40 = .ok (.aload_n 0, 1) := by decide +kernel
theorem dX3_init_41 : decode cX3_init 41 = .ok (.sipush 180, 3) := by decide +kernel
theorem dX3_init_44 : decode cX3_init 44 = .ok (.newarray .int, 2) := by decide +kernel
theorem dX3_init_46 : decode cX3_init 46 = .ok (.putfield 28, 3) := by decide +kernel
theorem dX3_init_49 : decode cX3_init 49 = .ok (.aload_n 0, 1) := by decide +kernel
theorem dX3_init_50 : decode cX3_init 50 = .ok (.bipush 60, 2) := by decide +kernel
theorem dX3_init_52 : decode cX3_init 52 = .ok (.newarray .int, 2) := by decide +kernel
theorem dX3_init_54 : decode cX3_init 54 = .ok (.putfield 31, 3) := by decide +kernel
theorem dX3_init_57 : decode cX3_init 57 = .ok (.aload_n 0, 1) := by decide +kernel
theorem dX3_init_58 : decode cX3_init 58 = .ok (.bipush 60, 2) := by decide +kernel
theorem dX3_init_60 : decode cX3_init 60 = .ok (.newarray .boolean, 2) := by decide +kernel
theorem dX3_init_62 : decode cX3_init 62 = .ok (.putfield 34, 3) := by decide +kernel
theorem dX3_init_65 : decode cX3_init 65 = .ok (.aload_n 0, 1) := by decide +kernel
theorem dX3_init_66 : decode cX3_init 66 = .ok (.bipush 120, 2) := by decide +kernel
theorem dX3_init_68 : decode cX3_init 68 = .ok (.newarray .int, 2) := by decide +kernel
theorem dX3_init_70 : decode cX3_init 70 = .ok (.putfield 38, 3) := by decide +kernel
theorem dX3_init_73 : decode cX3_init 73 = .ok (.aload_n 0, 1) := by decide +kernel
theorem dX3_init_74 : decode cX3_init 74 = .ok (.aload_n 1, 1) := by decide +kernel
theorem dX3_init_75 : decode cX3_init 75 = .ok (.putfield 41, 3) := by decide +kernel
theorem dX3_init_78 : decode cX3_init 78 = .ok (.aload_n 0, 1) := by decide +kernel
theorem dX3_init_79 : decode cX3_init 79 = .ok (.aload_n 2, 1) := by decide +kernel
theorem dX3_init_80 : decode cX3_init 80 = .ok (.putfield 45, 3) := by decide +kernel
theorem dX3_init_83 : decode cX3_init 83 = .ok (.return_, 1) := by decide +kernel
theorem dX3_lineCount_0 : decode cX3_lineCount 0 = .ok (.aload_n 0, 1) := by decide +kernel
theorem dX3_lineCount_1 : decode cX3_lineCount 1 = .ok (.getfield 49, 3) := by decide +kernel
theorem dX3_lineCount_4 : decode cX3_lineCount 4 = .ok (.ireturn, 1) := by decide +kernel
theorem dX3_boxCount_0 : decode cX3_boxCount 0 = .ok (.aload_n 0, 1) := by decide +kernel
theorem dX3_boxCount_1 : decode cX3_boxCount 1 = .ok (.getfield 12, 3) := by decide +kernel
theorem dX3_boxCount_4 : decode cX3_boxCount 4 = .ok (.invokevirtual 53, 3) := by decide +kernel
theorem dX3_boxCount_7 : decode cX3_boxCount 7 = .ok (.ireturn, 1) := by decide +kernel
theorem dX3_openCount_0 : decode cX3_openCount 0 = .ok (.aload_n 0, 1) := by decide +kernel
theorem dX3_openCount_1 : decode cX3_openCount 1 = .ok (.getfield 12, 3) := by decide +kernel
theorem dX3_openCount_4 : decode cX3_openCount 4 = .ok (.invokevirtual 57, 3) := by decide +kernel
theorem dX3_openCount_7 : decode cX3_openCount 7 = .ok (.ireturn, 1) := by decide +kernel
theorem dX3_premiseCount_0 : decode cX3_premiseCount 0 = .ok (.iconst 0, 1) := by decide +kernel
theorem dX3_premiseCount_1 : decode cX3_premiseCount 1 = .ok (.istore_n 1, 1) := by decide +kernel
theorem dX3_premiseCount_2 : decode cX3_premiseCount 2 = .ok (.iconst 0, 1) := by decide +kernel
theorem dX3_premiseCount_3 : decode cX3_premiseCount 3 = .ok (.istore_n 2, 1) := by decide +kernel
theorem dX3_premiseCount_4 : decode cX3_premiseCount 4 = .ok (.iload_n 2, 1) := by decide +kernel
theorem dX3_premiseCount_5 : decode cX3_premiseCount 5 = .ok (.aload_n 0, 1) := by decide +kernel
theorem dX3_premiseCount_6 : decode cX3_premiseCount 6 = .ok (.getfield 49, 3) := by decide +kernel
theorem dX3_premiseCount_9 : decode cX3_premiseCount 9 = .ok (.if_icmp .ge 33, 3) := by decide +kernel
theorem dX3_premiseCount_12 : decode cX3_premiseCount 12 = .ok (.iload_n 2, 1) := by decide +kernel
theorem dX3_premiseCount_13 : decode cX3_premiseCount 13 = .ok (.iconst 2, 1) := by decide +kernel
theorem dX3_premiseCount_14 : decode cX3_premiseCount 14 = .ok (.if_icmp .ge 28, 3) := by decide +kernel
theorem dX3_premiseCount_17 : decode cX3_premiseCount 17 = .ok (.iload_n 1, 1) := by decide +kernel
theorem dX3_premiseCount_18 : decode cX3_premiseCount 18 = .ok (.aload_n 0, 1) := by decide +kernel
theorem dX3_premiseCount_19 : decode cX3_premiseCount 19 = .ok (.getfield 22, 3) := by decide +kernel
theorem dX3_premiseCount_22 : decode cX3_premiseCount 22 = .ok (.iload_n 2, 1) := by decide +kernel
theorem dX3_premiseCount_23 : decode cX3_premiseCount 23 = .ok (.iaload, 1) := by decide +kernel
theorem dX3_premiseCount_24 : decode cX3_premiseCount 24 = .ok (.bipush 15, 2) := by decide +kernel
theorem dX3_premiseCount_26 : decode cX3_premiseCount 26 = .ok (.if_icmp .ne 7, 3) := by decide +kernel
theorem dX3_premiseCount_29 : decode cX3_premiseCount 29 = .ok (.iconst 1, 1) := by decide +kernel
theorem dX3_premiseCount_30 : decode cX3_premiseCount 30 = .ok (.goto 4, 3) := by decide +kernel
theorem dX3_premiseCount_33 : decode cX3_premiseCount 33 = .ok (.iconst 0, 1) := by decide +kernel
theorem dX3_premiseCount_34 : decode cX3_premiseCount 34 = .ok (.iadd, 1) := by decide +kernel
theorem dX3_premiseCount_35 : decode cX3_premiseCount 35 = .ok (.istore_n 1, 1) := by decide +kernel
theorem dX3_premiseCount_36 : decode cX3_premiseCount 36 = .ok (.iinc 2 1, 3) := by decide +kernel
theorem dX3_premiseCount_39 : decode cX3_premiseCount 39 = .ok (.goto (-35), 3) := by decide +kernel
theorem dX3_premiseCount_42 : decode cX3_premiseCount 42 = .ok (.iload_n 1, 1) := by decide +kernel
theorem dX3_premiseCount_43 : decode cX3_premiseCount 43 = .ok (.ireturn, 1) := by decide +kernel
theorem dX3_formulaOf_0 : decode cX3_formulaOf 0 = .ok (.iload_n 1, 1) := by decide +kernel
theorem dX3_formulaOf_1 : decode cX3_formulaOf 1 = .ok (.ifCond .lt 20, 3) := by decide +kernel
theorem dX3_formulaOf_4 : decode cX3_formulaOf 4 = .ok (.iload_n 1, 1) := by decide +kernel
theorem dX3_formulaOf_5 : decode cX3_formulaOf 5 = .ok (.aload_n 0, 1) := by decide +kernel
theorem dX3_formulaOf_6 : decode cX3_formulaOf 6 = .ok (.getfield 49, 3) := by decide +kernel
theorem dX3_formulaOf_9 : decode cX3_formulaOf 9 = .ok (.if_icmp .ge 12, 3) := by decide +kernel
theorem dX3_formulaOf_12 : decode cX3_formulaOf 12 = .ok (.aload_n 0, 1) := by decide +kernel
theorem dX3_formulaOf_13 : decode cX3_formulaOf 13 = .ok (.getfield 18, 3) := by decide +kernel
theorem dX3_formulaOf_16 : decode cX3_formulaOf 16 = .ok (.iload_n 1, 1) := by decide +kernel
theorem dX3_formulaOf_17 : decode cX3_formulaOf 17 = .ok (.iaload, 1) := by decide +kernel
theorem dX3_formulaOf_18 : decode cX3_formulaOf 18 = .ok (.goto 4, 3) := by decide +kernel
theorem dX3_formulaOf_21 : decode cX3_formulaOf 21 = .ok (.iconst (-1), 1) := by decide +kernel
theorem dX3_formulaOf_22 : decode cX3_formulaOf 22 = .ok (.ireturn, 1) := by decide +kernel
theorem dX3_ruleOf_0 : decode cX3_ruleOf 0 = .ok (.iload_n 1, 1) := by decide +kernel
theorem dX3_ruleOf_1 : decode cX3_ruleOf 1 = .ok (.ifCond .lt 20, 3) := by decide +kernel
theorem dX3_ruleOf_4 : decode cX3_ruleOf 4 = .ok (.iload_n 1, 1) := by decide +kernel
theorem dX3_ruleOf_5 : decode cX3_ruleOf 5 = .ok (.aload_n 0, 1) := by decide +kernel
theorem dX3_ruleOf_6 : decode cX3_ruleOf 6 = .ok (.getfield 49, 3) := by decide +kernel
theorem dX3_ruleOf_9 : decode cX3_ruleOf 9 = .ok (.if_icmp .ge 12, 3) := by decide +kernel
theorem dX3_ruleOf_12 : decode cX3_ruleOf 12 = .ok (.aload_n 0, 1) := by decide +kernel
theorem dX3_ruleOf_13 : decode cX3_ruleOf 13 = .ok (.getfield 22, 3) := by decide +kernel
theorem dX3_ruleOf_16 : decode cX3_ruleOf 16 = .ok (.iload_n 1, 1) := by decide +kernel
theorem dX3_ruleOf_17 : decode cX3_ruleOf 17 = .ok (.iaload, 1) := by decide +kernel
theorem dX3_ruleOf_18 : decode cX3_ruleOf 18 = .ok (.goto 4, 3) := by decide +kernel
theorem dX3_ruleOf_21 : decode cX3_ruleOf 21 = .ok (.iconst (-1), 1) := by decide +kernel
theorem dX3_ruleOf_22 : decode cX3_ruleOf 22 = .ok (.ireturn, 1) := by decide +kernel
theorem dX3_reference_0 : decode cX3_reference 0 = .ok (.iload_n 1, 1) := by decide +kernel
theorem dX3_reference_1 : decode cX3_reference 1 = .ok (.ifCond .lt 20, 3) := by decide +kernel
theorem dX3_reference_4 : decode cX3_reference 4 = .ok (.iload_n 1, 1) := by decide +kernel
theorem dX3_reference_5 : decode cX3_reference 5 = .ok (.aload_n 0, 1) := by decide +kernel
theorem dX3_reference_6 : decode cX3_reference 6 = .ok (.getfield 49, 3) := by decide +kernel
theorem dX3_reference_9 : decode cX3_reference 9 = .ok (.if_icmp .ge 12, 3) := by decide +kernel
theorem dX3_reference_12 : decode cX3_reference 12 = .ok (.iload_n 2, 1) := by decide +kernel
theorem dX3_reference_13 : decode cX3_reference 13 = .ok (.ifCond .lt 8, 3) := by decide +kernel
theorem dX3_reference_16 : decode cX3_reference 16 = .ok (.iload_n 2, 1) := by decide +kernel
theorem dX3_reference_17 : decode cX3_reference 17 = .ok (.iconst 2, 1) := by decide +kernel
theorem dX3_reference_18 : decode cX3_reference 18 = .ok (.if_icmp .le 5, 3) := by decide +kernel
theorem dX3_reference_21 : decode cX3_reference 21 = .ok (.iconst 0, 1) := by decide +kernel
theorem dX3_reference_22 : decode cX3_reference 22 = .ok (.ireturn, 1) := by decide +kernel
theorem dX3_reference_23 : decode cX3_reference 23 = .ok (.aload_n 0, 1) := by decide +kernel
theorem dX3_reference_24 : decode cX3_reference 24 = .ok (.getfield 25, 3) := by decide +kernel
theorem dX3_reference_27 : decode cX3_reference 27 = .ok (.iconst 3, 1) := by decide +kernel
theorem dX3_reference_28 : decode cX3_reference 28 = .ok (.iload_n 1, 1) := by decide +kernel
theorem dX3_reference_29 : decode cX3_reference 29 = .ok (.imul, 1) := by decide +kernel
theorem dX3_reference_30 : decode cX3_reference 30 = .ok (.iload_n 2, 1) := by decide +kernel
theorem dX3_reference_31 : decode cX3_reference 31 = .ok (.iadd, 1) := by decide +kernel
theorem dX3_reference_32 : decode cX3_reference 32 = .ok (.iaload, 1) := by decide +kernel
theorem dX3_reference_33 : decode cX3_reference 33 = .ok (.ireturn, 1) := by decide +kernel
theorem dX3_boxOf_0 : decode cX3_boxOf 0 = .ok (.iload_n 1, 1) := by decide +kernel
theorem dX3_boxOf_1 : decode cX3_boxOf 1 = .ok (.ifCond .lt 20, 3) := by decide +kernel
theorem dX3_boxOf_4 : decode cX3_boxOf 4 = .ok (.iload_n 1, 1) := by decide +kernel
theorem dX3_boxOf_5 : decode cX3_boxOf 5 = .ok (.aload_n 0, 1) := by decide +kernel
theorem dX3_boxOf_6 : decode cX3_boxOf 6 = .ok (.getfield 49, 3) := by decide +kernel
theorem dX3_boxOf_9 : decode cX3_boxOf 9 = .ok (.if_icmp .ge 12, 3) := by decide +kernel
theorem dX3_boxOf_12 : decode cX3_boxOf 12 = .ok (.aload_n 0, 1) := by decide +kernel
theorem dX3_boxOf_13 : decode cX3_boxOf 13 = .ok (.getfield 31, 3) := by decide +kernel
theorem dX3_boxOf_16 : decode cX3_boxOf 16 = .ok (.iload_n 1, 1) := by decide +kernel
theorem dX3_boxOf_17 : decode cX3_boxOf 17 = .ok (.iaload, 1) := by decide +kernel
theorem dX3_boxOf_18 : decode cX3_boxOf 18 = .ok (.goto 4, 3) := by decide +kernel
theorem dX3_boxOf_21 : decode cX3_boxOf 21 = .ok (.iconst (-1), 1) := by decide +kernel
theorem dX3_boxOf_22 : decode cX3_boxOf 22 = .ok (.ireturn, 1) := by decide +kernel
theorem dX3_firstLine_0 : decode cX3_firstLine 0 = .ok (.aload_n 0, 1) := by decide +kernel
theorem dX3_firstLine_1 : decode cX3_firstLine 1 = .ok (.getfield 12, 3) := by decide +kernel
theorem dX3_firstLine_4 : decode cX3_firstLine 4 = .ok (.iload_n 1, 1) := by decide +kernel
theorem dX3_firstLine_5 : decode cX3_firstLine 5 = .ok (.invokevirtual 62, 3) := by decide +kernel
theorem dX3_firstLine_8 : decode cX3_firstLine 8 = .ok (.ireturn, 1) := by decide +kernel
theorem dX3_lastLine_0 : decode cX3_lastLine 0 = .ok (.aload_n 0, 1) := by decide +kernel
theorem dX3_lastLine_1 : decode cX3_lastLine 1 = .ok (.getfield 12, 3) := by decide +kernel
theorem dX3_lastLine_4 : decode cX3_lastLine 4 = .ok (.iload_n 1, 1) := by decide +kernel
theorem dX3_lastLine_5 : decode cX3_lastLine 5 = .ok (.invokevirtual 66, 3) := by decide +kernel
theorem dX3_lastLine_8 : decode cX3_lastLine 8 = .ok (.ireturn, 1) := by decide +kernel
theorem dX3_outerBox_0 : decode cX3_outerBox 0 = .ok (.aload_n 0, 1) := by decide +kernel
theorem dX3_outerBox_1 : decode cX3_outerBox 1 = .ok (.getfield 12, 3) := by decide +kernel
theorem dX3_outerBox_4 : decode cX3_outerBox 4 = .ok (.iload_n 1, 1) := by decide +kernel
theorem dX3_outerBox_5 : decode cX3_outerBox 5 = .ok (.invokevirtual 69, 3) := by decide +kernel
theorem dX3_outerBox_8 : decode cX3_outerBox 8 = .ok (.ireturn, 1) := by decide +kernel
theorem dX3_beginOf_0 : decode cX3_beginOf 0 = .ok (.aload_n 0, 1) := by decide +kernel
theorem dX3_beginOf_1 : decode cX3_beginOf 1 = .ok (.aload_n 0, 1) := by decide +kernel
theorem dX3_beginOf_2 : decode cX3_beginOf 2 = .ok (.getfield 12, 3) := by decide +kernel
theorem dX3_beginOf_5 : decode cX3_beginOf 5 = .ok (.iload_n 1, 1) := by decide +kernel
theorem dX3_beginOf_6 : decode cX3_beginOf 6 = .ok (.invokevirtual 62, 3) := by decide +kernel
theorem dX3_beginOf_9 : decode cX3_beginOf 9 = .ok (.invokevirtual 72, 3) := by decide +kernel
theorem dX3_beginOf_12 : decode cX3_beginOf 12 = .ok (.ireturn, 1) := by decide +kernel
theorem dX3_endOf_0 : decode cX3_endOf 0 = .ok (.aload_n 0, 1) := by decide +kernel
theorem dX3_endOf_1 : decode cX3_endOf 1 = .ok (.aload_n 0, 1) := by decide +kernel
theorem dX3_endOf_2 : decode cX3_endOf 2 = .ok (.getfield 12, 3) := by decide +kernel
theorem dX3_endOf_5 : decode cX3_endOf 5 = .ok (.iload_n 1, 1) := by decide +kernel
theorem dX3_endOf_6 : decode cX3_endOf 6 = .ok (.invokevirtual 66, 3) := by decide +kernel
theorem dX3_endOf_9 : decode cX3_endOf 9 = .ok (.invokevirtual 72, 3) := by decide +kernel
theorem dX3_endOf_12 : decode cX3_endOf 12 = .ok (.ireturn, 1) := by decide +kernel
theorem dX3_seesLine_0 : decode cX3_seesLine 0 = .ok (.iload_n 1, 1) := by decide +kernel
theorem dX3_seesLine_1 : decode cX3_seesLine 1 = .ok (.ifCond .lt 31, 3) := by decide +kernel
theorem dX3_seesLine_4 : decode cX3_seesLine 4 = .ok (.iload_n 1, 1) := by decide +kernel
theorem dX3_seesLine_5 : decode cX3_seesLine 5 = .ok (.aload_n 0, 1) := by decide +kernel
theorem dX3_seesLine_6 : decode cX3_seesLine 6 = .ok (.getfield 49, 3) := by decide +kernel
theorem dX3_seesLine_9 : decode cX3_seesLine 9 = .ok (.if_icmp .ge 23, 3) := by decide +kernel
theorem dX3_seesLine_12 : decode cX3_seesLine 12 = .ok (.aload_n 0, 1) := by decide +kernel
theorem dX3_seesLine_13 : decode cX3_seesLine 13 = .ok (.getfield 12, 3) := by decide +kernel
theorem dX3_seesLine_16 : decode cX3_seesLine 16 = .ok (.aload_n 0, 1) := by decide +kernel
theorem dX3_seesLine_17 : decode cX3_seesLine 17 = .ok (.getfield 31, 3) := by decide +kernel
theorem dX3_seesLine_20 : decode cX3_seesLine 20 = .ok (.iload_n 1, 1) := by decide +kernel
theorem dX3_seesLine_21 : decode cX3_seesLine 21 = .ok (.iaload, 1) := by decide +kernel
theorem dX3_seesLine_22 : decode cX3_seesLine 22 = .ok (.invokevirtual 75, 3) := by decide +kernel
theorem dX3_seesLine_25 : decode cX3_seesLine 25 = .ok (.ifCond .eq 7, 3) := by decide +kernel
theorem dX3_seesLine_28 : decode cX3_seesLine 28 = .ok (.iconst 1, 1) := by decide +kernel
theorem dX3_seesLine_29 : decode cX3_seesLine 29 = .ok (.goto 4, 3) := by decide +kernel
theorem dX3_seesLine_32 : decode cX3_seesLine 32 = .ok (.iconst 0, 1) := by decide +kernel
theorem dX3_seesLine_33 : decode cX3_seesLine 33 = .ok (.ireturn, 1) := by decide +kernel
theorem dX3_seesBox_0 : decode cX3_seesBox 0 = .ok (.aload_n 0, 1) := by decide +kernel
theorem dX3_seesBox_1 : decode cX3_seesBox 1 = .ok (.getfield 12, 3) := by decide +kernel
theorem dX3_seesBox_4 : decode cX3_seesBox 4 = .ok (.iload_n 1, 1) := by decide +kernel
theorem dX3_seesBox_5 : decode cX3_seesBox 5 = .ok (.invokevirtual 79, 3) := by decide +kernel
theorem dX3_seesBox_8 : decode cX3_seesBox 8 = .ok (.ireturn, 1) := by decide +kernel
theorem dX3_clear_0 : decode cX3_clear 0 = .ok (.aload_n 0, 1) := by decide +kernel
theorem dX3_clear_1 : decode cX3_clear 1 = .ok (.getfield 12, 3) := by decide +kernel
theorem dX3_clear_4 : decode cX3_clear 4 = .ok (.invokevirtual 82, 3) := by decide +kernel
theorem dX3_clear_7 : decode cX3_clear 7 = .ok (.aload_n 0, 1) := by decide +kernel
theorem dX3_clear_8 : decode cX3_clear 8 = .ok (.iconst 0, 1) := by decide +kernel
theorem dX3_clear_9 : decode cX3_clear 9 = .ok (.putfield 85, 3) := by decide +kernel
theorem dX3_clear_12 : decode cX3_clear 12 = .ok (.aload_n 0, 1) := by decide +kernel
theorem dX3_clear_13 : decode cX3_clear 13 = .ok (.iconst 0, 1) := by decide +kernel
theorem dX3_clear_14 : decode cX3_clear 14 = .ok (.putfield 49, 3) := by decide +kernel
theorem dX3_clear_17 : decode cX3_clear 17 = .ok (.return_, 1) := by decide +kernel
theorem dX3_add_0 : decode cX3_add 0 = .ok (.aload_n 0, 1) := by decide +kernel
theorem dX3_add_1 : decode cX3_add 1 = .ok (.getfield 49, 3) := by decide +kernel
theorem dX3_add_4 : decode cX3_add 4 = .ok (.istore 6, 2) := by decide +kernel
theorem dX3_add_6 : decode cX3_add 6 = .ok (.iload 6, 2) := by decide +kernel
theorem dX3_add_8 : decode cX3_add 8 = .ok (.ifCond .lt 10, 3) := by decide +kernel
theorem dX3_add_11 : decode cX3_add 11 = .ok (.iload 6, 2) := by decide +kernel
theorem dX3_add_13 : decode cX3_add 13 = .ok (.bipush 60, 2) := by decide +kernel
theorem dX3_add_15 : decode cX3_add 15 = .ok (.if_icmp .lt 5, 3) := by decide +kernel
theorem dX3_add_18 : decode cX3_add 18 = .ok (.iconst (-1), 1) := by decide +kernel
theorem dX3_add_19 : decode cX3_add 19 = .ok (.ireturn, 1) := by decide +kernel
theorem dX3_add_20 : decode cX3_add 20 = .ok (.aload_n 0, 1) := by decide +kernel
theorem dX3_add_21 : decode cX3_add 21 = .ok (.getfield 18, 3) := by decide +kernel
theorem dX3_add_24 : decode cX3_add 24 = .ok (.iload 6, 2) := by decide +kernel
theorem dX3_add_26 : decode cX3_add 26 = .ok (.iload_n 1, 1) := by decide +kernel
theorem dX3_add_27 : decode cX3_add 27 = .ok (.iastore, 1) := by decide +kernel
theorem dX3_add_28 : decode cX3_add 28 = .ok (.aload_n 0, 1) := by decide +kernel
theorem dX3_add_29 : decode cX3_add 29 = .ok (.getfield 22, 3) := by decide +kernel
theorem dX3_add_32 : decode cX3_add 32 = .ok (.iload 6, 2) := by decide +kernel
theorem dX3_add_34 : decode cX3_add 34 = .ok (.iload_n 2, 1) := by decide +kernel
theorem dX3_add_35 : decode cX3_add 35 = .ok (.iastore, 1) := by decide +kernel
theorem dX3_add_36 : decode cX3_add 36 = .ok (.aload_n 0, 1) := by decide +kernel
theorem dX3_add_37 : decode cX3_add 37 = .ok (.iconst 3, 1) := by decide +kernel
theorem dX3_add_38 : decode cX3_add 38 = .ok (.iload 6, 2) := by decide +kernel
theorem dX3_add_40 : decode cX3_add 40 = .ok (.imul, 1) := by decide +kernel
theorem dX3_add_41 : decode cX3_add 41 = .ok (.aload_n 0, 1) := by decide +kernel
theorem dX3_add_42 : decode cX3_add 42 = .ok (.iload_n 2, 1) := by decide +kernel
theorem dX3_add_43 : decode cX3_add 43 = .ok (.iconst 0, 1) := by decide +kernel
theorem dX3_add_44 : decode cX3_add 44 = .ok (.iload_n 3, 1) := by decide +kernel
theorem dX3_add_45 : decode cX3_add 45 = .ok (.invokevirtual 88, 3) := by decide +kernel
theorem dX3_add_48 : decode cX3_add 48 = .ok (.iload_n 3, 1) := by decide +kernel
theorem dX3_add_49 : decode cX3_add 49 = .ok (.invokevirtual 92, 3) := by decide +kernel
theorem dX3_add_52 : decode cX3_add 52 = .ok (.aload_n 0, 1) := by decide +kernel
theorem dX3_add_53 : decode cX3_add 53 = .ok (.iconst 3, 1) := by decide +kernel
theorem dX3_add_54 : decode cX3_add 54 = .ok (.iload 6, 2) := by decide +kernel
theorem dX3_add_56 : decode cX3_add 56 = .ok (.imul, 1) := by decide +kernel
theorem dX3_add_57 : decode cX3_add 57 = .ok (.iconst 1, 1) := by decide +kernel
theorem dX3_add_58 : decode cX3_add 58 = .ok (.iadd, 1) := by decide +kernel
theorem dX3_add_59 : decode cX3_add 59 = .ok (.aload_n 0, 1) := by decide +kernel
theorem dX3_add_60 : decode cX3_add 60 = .ok (.iload_n 2, 1) := by decide +kernel
theorem dX3_add_61 : decode cX3_add 61 = .ok (.iconst 1, 1) := by decide +kernel
theorem dX3_add_62 : decode cX3_add 62 = .ok (.iload_n 3, 1) := by decide +kernel
theorem dX3_add_63 : decode cX3_add 63 = .ok (.invokevirtual 88, 3) := by decide +kernel
theorem dX3_add_66 : decode cX3_add 66 = .ok (.iload 4, 2) := by decide +kernel
theorem dX3_add_68 : decode cX3_add 68 = .ok (.invokevirtual 92, 3) := by decide +kernel
theorem dX3_add_71 : decode cX3_add 71 = .ok (.aload_n 0, 1) := by decide +kernel
theorem dX3_add_72 : decode cX3_add 72 = .ok (.iconst 3, 1) := by decide +kernel
theorem dX3_add_73 : decode cX3_add 73 = .ok (.iload 6, 2) := by decide +kernel
theorem dX3_add_75 : decode cX3_add 75 = .ok (.imul, 1) := by decide +kernel
theorem dX3_add_76 : decode cX3_add 76 = .ok (.iconst 2, 1) := by decide +kernel
theorem dX3_add_77 : decode cX3_add 77 = .ok (.iadd, 1) := by decide +kernel
theorem dX3_add_78 : decode cX3_add 78 = .ok (.aload_n 0, 1) := by decide +kernel
theorem dX3_add_79 : decode cX3_add 79 = .ok (.iload_n 2, 1) := by decide +kernel
theorem dX3_add_80 : decode cX3_add 80 = .ok (.iconst 2, 1) := by decide +kernel
theorem dX3_add_81 : decode cX3_add 81 = .ok (.iload_n 3, 1) := by decide +kernel
theorem dX3_add_82 : decode cX3_add 82 = .ok (.invokevirtual 88, 3) := by decide +kernel
theorem dX3_add_85 : decode cX3_add 85 = .ok (.iload 5, 2) := by decide +kernel
theorem dX3_add_87 : decode cX3_add 87 = .ok (.invokevirtual 92, 3) := by decide +kernel
theorem dX3_add_90 : decode cX3_add 90 = .ok (.aload_n 0, 1) := by decide +kernel
theorem dX3_add_91 : decode cX3_add 91 = .ok (.getfield 31, 3) := by decide +kernel
theorem dX3_add_94 : decode cX3_add 94 = .ok (.iload 6, 2) := by decide +kernel
theorem dX3_add_96 : decode cX3_add 96 = .ok (.aload_n 0, 1) := by decide +kernel
theorem dX3_add_97 : decode cX3_add 97 = .ok (.getfield 12, 3) := by decide +kernel
theorem dX3_add_100 : decode cX3_add 100 = .ok (.invokevirtual 96, 3) := by decide +kernel
theorem dX3_add_103 : decode cX3_add 103 = .ok (.iastore, 1) := by decide +kernel
theorem dX3_add_104 : decode cX3_add 104 = .ok (.aload_n 0, 1) := by decide +kernel
theorem dX3_add_105 : decode cX3_add 105 = .ok (.dup, 1) := by decide +kernel
theorem dX3_add_106 : decode cX3_add 106 = .ok (.getfield 49, 3) := by decide +kernel
theorem dX3_add_109 : decode cX3_add 109 = .ok (.iconst 1, 1) := by decide +kernel
theorem dX3_add_110 : decode cX3_add 110 = .ok (.iadd, 1) := by decide +kernel
theorem dX3_add_111 : decode cX3_add 111 = .ok (.putfield 49, 3) := by decide +kernel
theorem dX3_add_114 : decode cX3_add 114 = .ok (.aload_n 0, 1) := by decide +kernel
theorem dX3_add_115 : decode cX3_add 115 = .ok (.iconst (-1), 1) := by decide +kernel
theorem dX3_add_116 : decode cX3_add 116 = .ok (.invokevirtual 99, 3) := by decide +kernel
theorem dX3_add_119 : decode cX3_add 119 = .ok (.iload 6, 2) := by decide +kernel
theorem dX3_add_121 : decode cX3_add 121 = .ok (.ireturn, 1) := by decide +kernel
theorem dX3_refer_0 : decode cX3_refer 0 = .ok (.iload_n 1, 1) := by decide +kernel
theorem dX3_refer_1 : decode cX3_refer 1 = .ok (.ifCond .lt 34, 3) := by decide +kernel
theorem dX3_refer_4 : decode cX3_refer 4 = .ok (.iload_n 1, 1) := by decide +kernel
theorem dX3_refer_5 : decode cX3_refer 5 = .ok (.aload_n 0, 1) := by decide +kernel
theorem dX3_refer_6 : decode cX3_refer 6 = .ok (.getfield 25, 3) := by decide +kernel
theorem dX3_refer_9 : decode cX3_refer 9 = .ok (.arraylength, 1) := by decide +kernel
theorem dX3_refer_10 : decode cX3_refer 10 = .ok (.if_icmp .ge 25, 3) := by decide +kernel
theorem dX3_refer_13 : decode cX3_refer 13 = .ok (.aload_n 0, 1) := by decide +kernel
theorem dX3_refer_14 : decode cX3_refer 14 = .ok (.getfield 28, 3) := by decide +kernel
theorem dX3_refer_17 : decode cX3_refer 17 = .ok (.iload_n 1, 1) := by decide +kernel
theorem dX3_refer_18 : decode cX3_refer 18 = .ok (.iload_n 2, 1) := by decide +kernel
theorem dX3_refer_19 : decode cX3_refer 19 = .ok (.iastore, 1) := by decide +kernel
theorem dX3_refer_20 : decode cX3_refer 20 = .ok (.aload_n 0, 1) := by decide +kernel
theorem dX3_refer_21 : decode cX3_refer 21 = .ok (.getfield 25, 3) := by decide +kernel
theorem dX3_refer_24 : decode cX3_refer 24 = .ok (.iload_n 1, 1) := by decide +kernel
theorem dX3_refer_25 : decode cX3_refer 25 = .ok (.iload_n 2, 1) := by decide +kernel
theorem dX3_refer_26 : decode cX3_refer 26 = .ok (.ifCond .ne 7, 3) := by decide +kernel
theorem dX3_refer_29 : decode cX3_refer 29 = .ok (.iconst 0, 1) := by decide +kernel
theorem dX3_refer_30 : decode cX3_refer 30 = .ok (.goto 4, 3) := by decide +kernel
theorem dX3_refer_33 : decode cX3_refer 33 = .ok (.iload_n 3, 1) := by decide +kernel
theorem dX3_refer_34 : decode cX3_refer 34 = .ok (.iastore, 1) := by decide +kernel
theorem dX3_refer_35 : decode cX3_refer 35 = .ok (.return_, 1) := by decide +kernel
theorem dX3_openBox_0 : decode cX3_openBox 0 = .ok (.aload_n 0, 1) := by decide +kernel
theorem dX3_openBox_1 : decode cX3_openBox 1 = .ok (.getfield 12, 3) := by decide +kernel
theorem dX3_openBox_4 : decode cX3_openBox 4 = .ok (.aload_n 0, 1) := by decide +kernel
theorem dX3_openBox_5 : decode cX3_openBox 5 = .ok (.getfield 49, 3) := by decide +kernel
theorem dX3_openBox_8 : decode cX3_openBox 8 = .ok (.invokevirtual 103, 3) := by decide +kernel
theorem dX3_openBox_11 : decode cX3_openBox 11 = .ok (.return_, 1) := by decide +kernel
theorem dX3_shutBox_0 : decode cX3_shutBox 0 = .ok (.aload_n 0, 1) := by decide +kernel
theorem dX3_shutBox_1 : decode cX3_shutBox 1 = .ok (.getfield 12, 3) := by decide +kernel
theorem dX3_shutBox_4 : decode cX3_shutBox 4 = .ok (.invokevirtual 96, 3) := by decide +kernel
theorem dX3_shutBox_7 : decode cX3_shutBox 7 = .ok (.istore_n 1, 1) := by decide +kernel
theorem dX3_shutBox_8 : decode cX3_shutBox 8 = .ok (.aload_n 0, 1) := by decide +kernel
theorem dX3_shutBox_9 : decode cX3_shutBox 9 = .ok (.getfield 12, 3) := by decide +kernel
theorem dX3_shutBox_12 : decode cX3_shutBox 12 = .ok (.aload_n 0, 1) := by decide +kernel
theorem dX3_shutBox_13 : decode cX3_shutBox 13 = .ok (.iload_n 1, 1) := by decide +kernel
theorem dX3_shutBox_14 : decode cX3_shutBox 14 = .ok (.invokevirtual 106, 3) := by decide +kernel
theorem dX3_shutBox_17 : decode cX3_shutBox 17 = .ok (.invokevirtual 109, 3) := by decide +kernel
theorem dX3_shutBox_20 : decode cX3_shutBox 20 = .ok (.aload_n 0, 1) := by decide +kernel
theorem dX3_shutBox_21 : decode cX3_shutBox 21 = .ok (.iload_n 1, 1) := by decide +kernel
theorem dX3_shutBox_22 : decode cX3_shutBox 22 = .ok (.invokevirtual 99, 3) := by decide +kernel
theorem dX3_shutBox_25 : decode cX3_shutBox 25 = .ok (.iload_n 1, 1) := by decide +kernel
theorem dX3_shutBox_26 : decode cX3_shutBox 26 = .ok (.ireturn, 1) := by decide +kernel
theorem dX3_latestLineOf_0 : decode cX3_latestLineOf 0 = .ok (.bipush 60, 2) := by decide +kernel
theorem dX3_latestLineOf_2 : decode cX3_latestLineOf 2 = .ok (.aload_n 0, 1) := by decide +kernel
theorem dX3_latestLineOf_3 : decode cX3_latestLineOf 3 = .ok (.getfield 49, 3) := by decide +kernel
theorem dX3_latestLineOf_6 : decode cX3_latestLineOf 6 = .ok (.invokestatic 112, 3) := by decide +kernel
theorem dX3_latestLineOf_9 : decode cX3_latestLineOf 9 = .ok (.iconst 1, 1) := by decide +kernel
theorem dX3_latestLineOf_10 : decode cX3_latestLineOf 10 = .ok (.isub, 1) := by decide +kernel
theorem dX3_latestLineOf_11 : decode cX3_latestLineOf 11 = .ok (.istore_n 2, 1) := by decide +kernel
theorem dX3_latestLineOf_12 : decode cX3_latestLineOf 12 = .ok (.iload_n 2, 1) := by decide +kernel
theorem dX3_latestLineOf_13 : decode cX3_latestLineOf 13 = .ok (.ifCond .lt 21, 3) := by decide +kernel
theorem dX3_latestLineOf_16 : decode cX3_latestLineOf 16 = .ok (.aload_n 0, 1) := by decide +kernel
theorem dX3_latestLineOf_17 : decode cX3_latestLineOf 17 = .ok (.getfield 31, 3) := by decide +kernel
theorem dX3_latestLineOf_20 : decode cX3_latestLineOf 20 = .ok (.iload_n 2, 1) := by decide +kernel
theorem dX3_latestLineOf_21 : decode cX3_latestLineOf 21 = .ok (.iaload, 1) := by decide +kernel
theorem dX3_latestLineOf_22 : decode cX3_latestLineOf 22 = .ok (.iload_n 1, 1) := by decide +kernel
theorem dX3_latestLineOf_23 : decode cX3_latestLineOf 23 = .ok (.if_icmp .ne 5, 3) := by decide +kernel
theorem dX3_latestLineOf_26 : decode cX3_latestLineOf 26 = .ok (.iload_n 2, 1) := by decide +kernel
theorem dX3_latestLineOf_27 : decode cX3_latestLineOf 27 = .ok (.ireturn, 1) := by decide +kernel
theorem dX3_latestLineOf_28 : decode cX3_latestLineOf 28 = .ok (.iinc 2 (-1), 3) := by decide +kernel
theorem dX3_latestLineOf_31 : decode cX3_latestLineOf 31 = .ok (.goto (-19), 3) := by decide +kernel
theorem dX3_latestLineOf_34 : decode cX3_latestLineOf 34 = .ok (.iconst (-1), 1) := by decide +kernel
theorem dX3_latestLineOf_35 : decode cX3_latestLineOf 35 = .ok (.ireturn, 1) := by decide +kernel
theorem dX3_noteDeed_0 : decode cX3_noteDeed 0 = .ok (.aload_n 0, 1) := by decide +kernel
theorem dX3_noteDeed_1 : decode cX3_noteDeed 1 = .ok (.getfield 85, 3) := by decide +kernel
theorem dX3_noteDeed_4 : decode cX3_noteDeed 4 = .ok (.ifCond .lt 32, 3) := by decide +kernel
theorem dX3_noteDeed_7 : decode cX3_noteDeed 7 = .ok (.aload_n 0, 1) := by decide +kernel
theorem dX3_noteDeed_8 : decode cX3_noteDeed 8 = .ok (.getfield 85, 3) := by decide +kernel
theorem dX3_noteDeed_11 : decode cX3_noteDeed 11 = .ok (.bipush 120, 2) := by decide +kernel
theorem dX3_noteDeed_13 : decode cX3_noteDeed 13 = .ok (.if_icmp .ge 23, 3) := by decide +kernel
theorem dX3_noteDeed_16 : decode cX3_noteDeed 16 = .ok (.aload_n 0, 1) := by decide +kernel
theorem dX3_noteDeed_17 : decode cX3_noteDeed 17 = .ok (.getfield 38, 3) := by decide +kernel
theorem dX3_noteDeed_20 : decode cX3_noteDeed 20 = .ok (.aload_n 0, 1) := by decide +kernel
theorem dX3_noteDeed_21 : decode cX3_noteDeed 21 = .ok (.getfield 85, 3) := by decide +kernel
theorem dX3_noteDeed_24 : decode cX3_noteDeed 24 = .ok (.iload_n 1, 1) := by decide +kernel
theorem dX3_noteDeed_25 : decode cX3_noteDeed 25 = .ok (.iastore, 1) := by decide +kernel
theorem dX3_noteDeed_26 : decode cX3_noteDeed 26 = .ok (.aload_n 0, 1) := by decide +kernel
theorem dX3_noteDeed_27 : decode cX3_noteDeed 27 = .ok (.dup, 1) := by decide +kernel
theorem dX3_noteDeed_28 : decode cX3_noteDeed 28 = .ok (.getfield 85, 3) := by decide +kernel
theorem dX3_noteDeed_31 : decode cX3_noteDeed 31 = .ok (.iconst 1, 1) := by decide +kernel
theorem dX3_noteDeed_32 : decode cX3_noteDeed 32 = .ok (.iadd, 1) := by decide +kernel
theorem dX3_noteDeed_33 : decode cX3_noteDeed 33 = .ok (.putfield 85, 3) := by decide +kernel
theorem dX3_noteDeed_36 : decode cX3_noteDeed 36 = .ok (.return_, 1) := by decide +kernel
theorem dX3_wasBegun_0 : decode cX3_wasBegun 0 = .ok (.aload_n 0, 1) := by decide +kernel
theorem dX3_wasBegun_1 : decode cX3_wasBegun 1 = .ok (.getfield 85, 3) := by decide +kernel
theorem dX3_wasBegun_4 : decode cX3_wasBegun 4 = .ok (.ifCond .le 7, 3) := by decide +kernel
theorem dX3_wasBegun_7 : decode cX3_wasBegun 7 = .ok (.iconst 1, 1) := by decide +kernel
theorem dX3_wasBegun_8 : decode cX3_wasBegun 8 = .ok (.goto 4, 3) := by decide +kernel
theorem dX3_wasBegun_11 : decode cX3_wasBegun 11 = .ok (.iconst 0, 1) := by decide +kernel
theorem dX3_wasBegun_12 : decode cX3_wasBegun 12 = .ok (.ireturn, 1) := by decide +kernel
theorem dX3_takeBack_0 : decode cX3_takeBack 0 = .ok (.aload_n 0, 1) := by decide +kernel
theorem dX3_takeBack_1 : decode cX3_takeBack 1 = .ok (.getfield 85, 3) := by decide +kernel
theorem dX3_takeBack_4 : decode cX3_takeBack 4 = .ok (.iconst 1, 1) := by decide +kernel
theorem dX3_takeBack_5 : decode cX3_takeBack 5 = .ok (.isub, 1) := by decide +kernel
theorem dX3_takeBack_6 : decode cX3_takeBack 6 = .ok (.istore_n 1, 1) := by decide +kernel
theorem dX3_takeBack_7 : decode cX3_takeBack 7 = .ok (.iload_n 1, 1) := by decide +kernel
theorem dX3_takeBack_8 : decode cX3_takeBack 8 = .ok (.ifCond .lt 9, 3) := by decide +kernel
theorem dX3_takeBack_11 : decode cX3_takeBack 11 = .ok (.iload_n 1, 1) := by decide +kernel
theorem dX3_takeBack_12 : decode cX3_takeBack 12 = .ok (.bipush 120, 2) := by decide +kernel
theorem dX3_takeBack_14 : decode cX3_takeBack 14 = .ok (.if_icmp .lt 4, 3) := by decide +kernel
theorem dX3_takeBack_17 : decode cX3_takeBack 17 = .ok (.return_, 1) := by decide +kernel
theorem dX3_takeBack_18 : decode cX3_takeBack 18 = .ok (.aload_n 0, 1) := by decide +kernel
theorem dX3_takeBack_19 : decode cX3_takeBack 19 = .ok (.iload_n 1, 1) := by decide +kernel
theorem dX3_takeBack_20 : decode cX3_takeBack 20 = .ok (.putfield 85, 3) := by decide +kernel
theorem dX3_takeBack_23 : decode cX3_takeBack 23 = .ok (.aload_n 0, 1) := by decide +kernel
theorem dX3_takeBack_24 : decode cX3_takeBack 24 = .ok (.getfield 38, 3) := by decide +kernel
theorem dX3_takeBack_27 : decode cX3_takeBack 27 = .ok (.iload_n 1, 1) := by decide +kernel
theorem dX3_takeBack_28 : decode cX3_takeBack 28 = .ok (.iaload, 1) := by decide +kernel
theorem dX3_takeBack_29 : decode cX3_takeBack 29 = .ok (.iconst (-1), 1) := by decide +kernel
theorem dX3_takeBack_30 : decode cX3_takeBack 30 = .ok (.if_icmp .eq 17, 3) := by decide +kernel
theorem dX3_takeBack_33 : decode cX3_takeBack 33 = .ok (.aload_n 0, 1) := by decide +kernel
theorem dX3_takeBack_34 : decode cX3_takeBack 34 = .ok (.getfield 12, 3) := by decide +kernel
theorem dX3_takeBack_37 : decode cX3_takeBack 37 = .ok (.aload_n 0, 1) := by decide +kernel
theorem dX3_takeBack_38 : decode cX3_takeBack 38 = .ok (.getfield 38, 3) := by decide +kernel
theorem dX3_takeBack_41 : decode cX3_takeBack 41 = .ok (.iload_n 1, 1) := by decide +kernel
theorem dX3_takeBack_42 : decode cX3_takeBack 42 = .ok (.iaload, 1) := by decide +kernel
theorem dX3_takeBack_43 : decode cX3_takeBack 43 = .ok (.invokevirtual 118, 3) := by decide +kernel
theorem dX3_takeBack_46 : decode cX3_takeBack 46 = .ok (.return_, 1) := by decide +kernel
theorem dX3_takeBack_47 : decode cX3_takeBack 47 = .ok (.aload_n 0, 1) := by decide +kernel
theorem dX3_takeBack_48 : decode cX3_takeBack 48 = .ok (.aload_n 0, 1) := by decide +kernel
theorem dX3_takeBack_49 : decode cX3_takeBack 49 = .ok (.getfield 49, 3) := by decide +kernel
theorem dX3_takeBack_52 : decode cX3_takeBack 52 = .ok (.iconst 1, 1) := by decide +kernel
theorem dX3_takeBack_53 : decode cX3_takeBack 53 = .ok (.isub, 1) := by decide +kernel
theorem dX3_takeBack_54 : decode cX3_takeBack 54 = .ok (.invokevirtual 121, 3) := by decide +kernel
theorem dX3_takeBack_57 : decode cX3_takeBack 57 = .ok (.bipush 14, 2) := by decide +kernel
theorem dX3_takeBack_59 : decode cX3_takeBack 59 = .ok (.if_icmp .ne 10, 3) := by decide +kernel
theorem dX3_takeBack_62 : decode cX3_takeBack 62 = .ok (.aload_n 0, 1) := by decide +kernel
theorem dX3_takeBack_63 : decode cX3_takeBack 63 = .ok (.getfield 12, 3) := by decide +kernel
theorem dX3_takeBack_66 : decode cX3_takeBack 66 = .ok (.invokevirtual 124, 3) := by decide +kernel
theorem dX3_takeBack_69 : decode cX3_takeBack 69 = .ok (.aload_n 0, 1) := by decide +kernel
theorem dX3_takeBack_70 : decode cX3_takeBack 70 = .ok (.iconst 0, 1) := by decide +kernel
theorem dX3_takeBack_71 : decode cX3_takeBack 71 = .ok (.aload_n 0, 1) := by decide +kernel
theorem dX3_takeBack_72 : decode cX3_takeBack 72 = .ok (.getfield 49, 3) := by decide +kernel
theorem dX3_takeBack_75 : decode cX3_takeBack 75 = .ok (.iconst 1, 1) := by decide +kernel
theorem dX3_takeBack_76 : decode cX3_takeBack 76 = .ok (.isub, 1) := by decide +kernel
theorem dX3_takeBack_77 : decode cX3_takeBack 77 = .ok (.invokestatic 127, 3) := by decide +kernel
theorem dX3_takeBack_80 : decode cX3_takeBack 80 = .ok (.putfield 49, 3) := by decide +kernel
theorem dX3_takeBack_83 : decode cX3_takeBack 83 = .ok (.return_, 1) := by decide +kernel
theorem dX3_kind_0 : decode cX3_kind 0 = .ok (.iload_n 1, 1) := by decide +kernel
theorem dX3_kind_1 : decode cX3_kind 1 = .ok (.bipush 13, 2) := by decide +kernel
theorem dX3_kind_3 : decode cX3_kind 3 = .ok (.if_icmp .ne 17, 3) := by decide +kernel
theorem dX3_kind_6 : decode cX3_kind 6 = .ok (.iload_n 2, 1) := by decide +kernel
theorem dX3_kind_7 : decode cX3_kind 7 = .ok (.aload_n 0, 1) := by decide +kernel
theorem dX3_kind_8 : decode cX3_kind 8 = .ok (.getfield 45, 3) := by decide +kernel
theorem dX3_kind_11 : decode cX3_kind 11 = .ok (.iload_n 3, 1) := by decide +kernel
theorem dX3_kind_12 : decode cX3_kind 12 = .ok (.invokevirtual 130, 3) := by decide +kernel
theorem dX3_kind_15 : decode cX3_kind 15 = .ok (.if_icmp .le 5, 3) := by decide +kernel
theorem dX3_kind_18 : decode cX3_kind 18 = .ok (.iconst 0, 1) := by decide +kernel
theorem dX3_kind_19 : decode cX3_kind 19 = .ok (.ireturn, 1) := by decide +kernel
theorem dX3_kind_20 : decode cX3_kind 20 = .ok (.iconst 3, 1) := by decide +kernel
theorem dX3_kind_21 : decode cX3_kind 21 = .ok (.iload_n 1, 1) := by decide +kernel
theorem dX3_kind_22 : decode cX3_kind 22 = .ok (.imul, 1) := by decide +kernel
theorem dX3_kind_23 : decode cX3_kind 23 = .ok (.iload_n 2, 1) := by decide +kernel
theorem dX3_kind_24 : decode cX3_kind 24 = .ok (.iadd, 1) := by decide +kernel
theorem dX3_kind_25 : decode cX3_kind 25 = .ok (.istore 4, 2) := by decide +kernel
theorem dX3_kind_27 : decode cX3_kind 27 = .ok (.iload 4, 2) := by decide +kernel
theorem dX3_kind_29 : decode cX3_kind 29 = .ok (.ifCond .lt 21, 3) := by decide +kernel
theorem dX3_kind_32 : decode cX3_kind 32 = .ok (.iload 4, 2) := by decide +kernel
theorem dX3_kind_34 : decode cX3_kind 34 = .ok (.getstatic 135, 3) := by decide +kernel
theorem dX3_kind_37 : decode cX3_kind 37 = .ok (.arraylength, 1) := by decide +kernel
theorem dX3_kind_38 : decode cX3_kind 38 = .ok (.if_icmp .ge 12, 3) := by decide +kernel
theorem dX3_kind_41 : decode cX3_kind 41 = .ok (.getstatic 135, 3) := by decide +kernel
theorem dX3_kind_44 : decode cX3_kind 44 = .ok (.iload 4, 2) := by decide +kernel
theorem dX3_kind_46 : decode cX3_kind 46 = .ok (.iaload, 1) := by decide +kernel
theorem dX3_kind_47 : decode cX3_kind 47 = .ok (.goto 4, 3) := by decide +kernel
theorem dX3_kind_50 : decode cX3_kind 50 = .ok (.iconst 0, 1) := by decide +kernel
theorem dX3_kind_51 : decode cX3_kind 51 = .ok (.ireturn, 1) := by decide +kernel
theorem dX3_isNeeded_0 : decode cX3_isNeeded 0 = .ok (.aload_n 0, 1) := by decide +kernel
theorem dX3_isNeeded_1 : decode cX3_isNeeded 1 = .ok (.invokevirtual 138, 3) := by decide +kernel
theorem dX3_isNeeded_4 : decode cX3_isNeeded 4 = .ok (.ifCond .le 28, 3) := by decide +kernel
theorem dX3_isNeeded_7 : decode cX3_isNeeded 7 = .ok (.iload_n 1, 1) := by decide +kernel
theorem dX3_isNeeded_8 : decode cX3_isNeeded 8 = .ok (.ifCond .lt 24, 3) := by decide +kernel
theorem dX3_isNeeded_11 : decode cX3_isNeeded 11 = .ok (.iload_n 1, 1) := by decide +kernel
theorem dX3_isNeeded_12 : decode cX3_isNeeded 12 = .ok (.aload_n 0, 1) := by decide +kernel
theorem dX3_isNeeded_13 : decode cX3_isNeeded 13 = .ok (.getfield 49, 3) := by decide +kernel
theorem dX3_isNeeded_16 : decode cX3_isNeeded 16 = .ok (.if_icmp .ge 16, 3) := by decide +kernel
theorem dX3_isNeeded_19 : decode cX3_isNeeded 19 = .ok (.aload_n 0, 1) := by decide +kernel
theorem dX3_isNeeded_20 : decode cX3_isNeeded 20 = .ok (.getfield 34, 3) := by decide +kernel
theorem dX3_isNeeded_23 : decode cX3_isNeeded 23 = .ok (.iload_n 1, 1) := by decide +kernel
theorem dX3_isNeeded_24 : decode cX3_isNeeded 24 = .ok (.baload, 1) := by decide +kernel
theorem dX3_isNeeded_25 : decode cX3_isNeeded 25 = .ok (.ifCond .eq 7, 3) := by decide +kernel
theorem dX3_isNeeded_28 : decode cX3_isNeeded 28 = .ok (.iconst 1, 1) := by decide +kernel
theorem dX3_isNeeded_29 : decode cX3_isNeeded 29 = .ok (.goto 4, 3) := by decide +kernel
theorem dX3_isNeeded_32 : decode cX3_isNeeded 32 = .ok (.iconst 0, 1) := by decide +kernel
theorem dX3_isNeeded_33 : decode cX3_isNeeded 33 = .ok (.ireturn, 1) := by decide +kernel
theorem dX3_neededCount_0 : decode cX3_neededCount 0 = .ok (.iconst 0, 1) := by decide +kernel
theorem dX3_neededCount_1 : decode cX3_neededCount 1 = .ok (.istore_n 1, 1) := by decide +kernel
theorem dX3_neededCount_2 : decode cX3_neededCount 2 = .ok (.bipush 60, 2) := by decide +kernel
theorem dX3_neededCount_4 : decode cX3_neededCount 4 = .ok (.aload_n 0, 1) := by decide +kernel
theorem dX3_neededCount_5 : decode cX3_neededCount 5 = .ok (.getfield 49, 3) := by decide +kernel
theorem dX3_neededCount_8 : decode cX3_neededCount 8 = .ok (.invokestatic 112, 3) := by decide +kernel
theorem dX3_neededCount_11 : decode cX3_neededCount 11 = .ok (.istore_n 2, 1) := by decide +kernel
theorem dX3_neededCount_12 : decode cX3_neededCount 12 = .ok (.iconst 0, 1) := by decide +kernel
theorem dX3_neededCount_13 : decode cX3_neededCount 13 = .ok (.istore_n 3, 1) := by decide +kernel
theorem dX3_neededCount_14 : decode cX3_neededCount 14 = .ok (.iload_n 3, 1) := by decide +kernel
theorem dX3_neededCount_15 : decode cX3_neededCount 15 = .ok (.iload_n 2, 1) := by decide +kernel
theorem dX3_neededCount_16 : decode cX3_neededCount 16 = .ok (.if_icmp .ge 27, 3) := by decide +kernel
theorem dX3_neededCount_19 : decode cX3_neededCount 19 = .ok (.aload_n 0, 1) := by decide +kernel
theorem dX3_neededCount_20 : decode cX3_neededCount 20 = .ok (.getfield 34, 3) := by decide +kernel
theorem dX3_neededCount_23 : decode cX3_neededCount 23 = .ok (.iload_n 3, 1) := by decide +kernel
theorem dX3_neededCount_24 : decode cX3_neededCount 24 = .ok (.iload_n 3, 1) := by decide +kernel
theorem dX3_neededCount_25 : decode cX3_neededCount 25 = .ok (.iload_n 2, 1) := by decide +kernel
theorem dX3_neededCount_26 : decode cX3_neededCount 26 = .ok (.iconst 1, 1) := by decide +kernel
theorem dX3_neededCount_27 : decode cX3_neededCount 27 = .ok (.isub, 1) := by decide +kernel
theorem dX3_neededCount_28 : decode cX3_neededCount 28 = .ok (.if_icmp .ne 7, 3) := by decide +kernel
theorem dX3_neededCount_31 : decode cX3_neededCount 31 = .ok (.iconst 1, 1) := by decide +kernel
theorem dX3_neededCount_32 : decode cX3_neededCount 32 = .ok (.goto 4, 3) := by decide +kernel
theorem dX3_neededCount_35 : decode cX3_neededCount 35 = .ok (.iconst 0, 1) := by decide +kernel
theorem dX3_neededCount_36 : decode cX3_neededCount 36 = .ok (.bastore, 1) := by decide +kernel
theorem dX3_neededCount_37 : decode cX3_neededCount 37 = .ok (.iinc 3 1, 3) := by decide +kernel
theorem dX3_neededCount_40 : decode cX3_neededCount 40 = .ok (.goto (-26), 3) := by decide +kernel
theorem dX3_neededCount_43 : decode cX3_neededCount 43 = .ok (.iload_n 2, 1) := by decide +kernel
theorem dX3_neededCount_44 : decode cX3_neededCount 44 = .ok (.iconst 1, 1) := by decide +kernel
theorem dX3_neededCount_45 : decode cX3_neededCount 45 = .ok (.isub, 1) := by decide +kernel
theorem dX3_neededCount_46 : decode cX3_neededCount 46 = .ok (.istore_n 3, 1) := by decide +kernel
theorem dX3_neededCount_47 : decode cX3_neededCount 47 = .ok (.iload_n 3, 1) := by decide +kernel
theorem dX3_neededCount_48 : decode cX3_neededCount 48 = .ok (.ifCond .lt 26, 3) := by decide +kernel
theorem dX3_neededCount_51 : decode cX3_neededCount 51 = .ok (.aload_n 0, 1) := by decide +kernel
theorem dX3_neededCount_52 : decode cX3_neededCount 52 = .ok (.getfield 34, 3) := by decide +kernel
theorem dX3_neededCount_55 : decode cX3_neededCount 55 = .ok (.iload_n 3, 1) := by decide +kernel
theorem dX3_neededCount_56 : decode cX3_neededCount 56 = .ok (.baload, 1) := by decide +kernel
theorem dX3_neededCount_57 : decode cX3_neededCount 57 = .ok (.ifCond .eq 11, 3) := by decide +kernel
theorem dX3_neededCount_60 : decode cX3_neededCount 60 = .ok (.iinc 1 1, 3) := by decide +kernel
theorem dX3_neededCount_63 : decode cX3_neededCount 63 = .ok (.aload_n 0, 1) := by decide +kernel
theorem dX3_neededCount_64 : decode cX3_neededCount 64 = .ok (.iload_n 3, 1) := by decide +kernel
theorem dX3_neededCount_65 : decode cX3_neededCount 65 = .ok (.invokevirtual 141, 3) := by decide +kernel
theorem dX3_neededCount_68 : decode cX3_neededCount 68 = .ok (.iinc 3 (-1), 3) := by decide +kernel
theorem dX3_neededCount_71 : decode cX3_neededCount 71 = .ok (.goto (-24), 3) := by decide +kernel
theorem dX3_neededCount_74 : decode cX3_neededCount 74 = .ok (.iload_n 1, 1) := by decide +kernel
theorem dX3_neededCount_75 : decode cX3_neededCount 75 = .ok (.ireturn, 1) := by decide +kernel
theorem dX3_markReferences_0 : decode cX3_markReferences 0 = .ok (.iconst 3, 1) := by decide +kernel
theorem dX3_markReferences_1 : decode cX3_markReferences 1 = .ok (.iload_n 1, 1) := by decide +kernel
theorem dX3_markReferences_2 : decode cX3_markReferences 2 = .ok (.imul, 1) := by decide +kernel
theorem dX3_markReferences_3 : decode cX3_markReferences 3 = .ok (.istore_n 2, 1) := by decide +kernel
theorem dX3_markReferences_4 : decode cX3_markReferences 4 = .ok (.iload_n 2, 1) := by decide +kernel
theorem dX3_markReferences_5 : decode cX3_markReferences 5 = .ok (.iconst 3, 1) := by decide +kernel
theorem dX3_markReferences_6 : decode cX3_markReferences 6 = .ok (.iload_n 1, 1) := by decide +kernel
theorem dX3_markReferences_7 : decode cX3_markReferences 7 = .ok (.imul, 1) := by decide +kernel
theorem dX3_markReferences_8 : decode cX3_markReferences 8 = .ok (.iconst 3, 1) := by decide +kernel
theorem dX3_markReferences_9 : decode cX3_markReferences 9 = .ok (.iadd, 1) := by decide +kernel
theorem dX3_markReferences_10 : decode cX3_markReferences 10 = .ok (.if_icmp .ge 89, 3) := by decide +kernel
theorem dX3_markReferences_13 : decode cX3_markReferences 13 = .ok (.iload_n 2, 1) := by decide +kernel
theorem dX3_markReferences_14 : decode cX3_markReferences 14 = .ok (.ifCond .lt 85, 3) := by decide +kernel
theorem dX3_markReferences_17 : decode cX3_markReferences 17 = .ok (.iload_n 2, 1) := by decide +kernel
theorem dX3_markReferences_18 : decode cX3_markReferences 18 = .ok (.aload_n 0, 1) := by decide +kernel
theorem dX3_markReferences_19 : decode cX3_markReferences 19 = .ok (.getfield 28, 3) := by decide +kernel
theorem dX3_markReferences_22 : decode cX3_markReferences 22 = .ok (.arraylength, 1) := by decide +kernel
theorem dX3_markReferences_23 : decode cX3_markReferences 23 = .ok (.if_icmp .ge 76, 3) := by decide +kernel
theorem dX3_markReferences_26 : decode cX3_markReferences 26 = .ok (.aload_n 0, 1) := by decide +kernel
theorem dX3_markReferences_27 : decode cX3_markReferences 27 = .ok (.getfield 28, 3) := by decide +kernel
theorem dX3_markReferences_30 : decode cX3_markReferences 30 = .ok (.iload_n 2, 1) := by decide +kernel
theorem dX3_markReferences_31 : decode cX3_markReferences 31 = .ok (.iaload, 1) := by decide +kernel
theorem dX3_markReferences_32 : decode cX3_markReferences 32 = .ok (.iconst 1, 1) := by decide +kernel
theorem dX3_markReferences_33 : decode cX3_markReferences 33 = .ok (.if_icmp .ne 16, 3) := by decide +kernel
theorem dX3_markReferences_36 : decode cX3_markReferences 36 = .ok (.aload_n 0, 1) := by decide +kernel
theorem dX3_markReferences_37 : decode cX3_markReferences 37 = .ok (.aload_n 0, 1) := by decide +kernel
theorem dX3_markReferences_38 : decode cX3_markReferences 38 = .ok (.getfield 25, 3) := by decide +kernel
theorem dX3_markReferences_41 : decode cX3_markReferences 41 = .ok (.iload_n 2, 1) := by decide +kernel
theorem dX3_markReferences_42 : decode cX3_markReferences 42 = .ok (.iaload, 1) := by decide +kernel
theorem dX3_markReferences_43 : decode cX3_markReferences 43 = .ok (.invokevirtual 144, 3) := by decide +kernel
theorem dX3_markReferences_46 : decode cX3_markReferences 46 = .ok (.goto 47, 3) := by decide +kernel
theorem dX3_markReferences_49 : decode cX3_markReferences 49 = .ok (.aload_n 0, 1) := by decide +kernel
theorem dX3_markReferences_50 : decode cX3_markReferences 50 = .ok (.getfield 28, 3) := by decide +kernel
theorem dX3_markReferences_53 : decode cX3_markReferences 53 = .ok (.iload_n 2, 1) := by decide +kernel
theorem dX3_markReferences_54 : decode cX3_markReferences 54 = .ok (.iaload, 1) := by decide +kernel
theorem dX3_markReferences_55 : decode cX3_markReferences 55 = .ok (.iconst 2, 1) := by decide +kernel
theorem dX3_markReferences_56 : decode cX3_markReferences 56 = .ok (.if_icmp .ne 37, 3) := by decide +kernel
theorem dX3_markReferences_59 : decode cX3_markReferences 59 = .ok (.aload_n 0, 1) := by decide +kernel
theorem dX3_markReferences_60 : decode cX3_markReferences 60 = .ok (.aload_n 0, 1) := by decide +kernel
theorem dX3_markReferences_61 : decode cX3_markReferences 61 = .ok (.getfield 12, 3) := by decide +kernel
theorem dX3_markReferences_64 : decode cX3_markReferences 64 = .ok (.aload_n 0, 1) := by decide +kernel
theorem dX3_markReferences_65 : decode cX3_markReferences 65 = .ok (.getfield 25, 3) := by decide +kernel
theorem dX3_markReferences_68 : decode cX3_markReferences 68 = .ok (.iload_n 2, 1) := by decide +kernel
theorem dX3_markReferences_69 : decode cX3_markReferences 69 = .ok (.iaload, 1) := by decide +kernel
theorem dX3_markReferences_70 : decode cX3_markReferences 70 = .ok (.invokevirtual 62, 3) := by decide +kernel
theorem dX3_markReferences_73 : decode cX3_markReferences 73 = .ok (.invokevirtual 144, 3) := by decide +kernel
theorem dX3_markReferences_76 : decode cX3_markReferences 76 = .ok (.aload_n 0, 1) := by decide +kernel
theorem dX3_markReferences_77 : decode cX3_markReferences 77 = .ok (.aload_n 0, 1) := by decide +kernel
theorem dX3_markReferences_78 : decode cX3_markReferences 78 = .ok (.getfield 12, 3) := by decide +kernel
theorem dX3_markReferences_81 : decode cX3_markReferences 81 = .ok (.aload_n 0, 1) := by decide +kernel
theorem dX3_markReferences_82 : decode cX3_markReferences 82 = .ok (.getfield 25, 3) := by decide +kernel
theorem dX3_markReferences_85 : decode cX3_markReferences 85 = .ok (.iload_n 2, 1) := by decide +kernel
theorem dX3_markReferences_86 : decode cX3_markReferences 86 = .ok (.iaload, 1) := by decide +kernel
theorem dX3_markReferences_87 : decode cX3_markReferences 87 = .ok (.invokevirtual 66, 3) := by decide +kernel
theorem dX3_markReferences_90 : decode cX3_markReferences 90 = .ok (.invokevirtual 144, 3) := by decide +kernel
theorem dX3_markReferences_93 : decode cX3_markReferences 93 = .ok (.iinc 2 1, 3) := by decide +kernel
theorem dX3_markReferences_96 : decode cX3_markReferences 96 = .ok (.goto (-92), 3) := by decide +kernel
theorem dX3_markReferences_99 : decode cX3_markReferences 99 = .ok (.return_, 1) := by decide +kernel
theorem dX3_mark_0 : decode cX3_mark 0 = .ok (.iload_n 1, 1) := by decide +kernel
theorem dX3_mark_1 : decode cX3_mark 1 = .ok (.ifCond .lt 18, 3) := by decide +kernel
theorem dX3_mark_4 : decode cX3_mark 4 = .ok (.iload_n 1, 1) := by decide +kernel
theorem dX3_mark_5 : decode cX3_mark 5 = .ok (.aload_n 0, 1) := by decide +kernel
theorem dX3_mark_6 : decode cX3_mark 6 = .ok (.getfield 49, 3) := by decide +kernel
theorem dX3_mark_9 : decode cX3_mark 9 = .ok (.if_icmp .ge 10, 3) := by decide +kernel
theorem dX3_mark_12 : decode cX3_mark 12 = .ok (.aload_n 0, 1) := by decide +kernel
theorem dX3_mark_13 : decode cX3_mark 13 = .ok (.getfield 34, 3) := by decide +kernel
theorem dX3_mark_16 : decode cX3_mark 16 = .ok (.iload_n 1, 1) := by decide +kernel
theorem dX3_mark_17 : decode cX3_mark 17 = .ok (.iconst 1, 1) := by decide +kernel
theorem dX3_mark_18 : decode cX3_mark 18 = .ok (.bastore, 1) := by decide +kernel
theorem dX3_mark_19 : decode cX3_mark 19 = .ok (.return_, 1) := by decide +kernel
theorem dX3_failures_0 : decode cX3_failures 0 = .ok (.iconst 0, 1) := by decide +kernel
theorem dX3_failures_1 : decode cX3_failures 1 = .ok (.istore_n 2, 1) := by decide +kernel
theorem dX3_failures_2 : decode cX3_failures 2 = .ok (.iconst 0, 1) := by decide +kernel
theorem dX3_failures_3 : decode cX3_failures 3 = .ok (.istore_n 3, 1) := by decide +kernel
theorem dX3_failures_4 : decode cX3_failures 4 = .ok (.iload_n 3, 1) := by decide +kernel
theorem dX3_failures_5 : decode cX3_failures 5 = .ok (.iconst 4, 1) := by decide +kernel
theorem dX3_failures_6 : decode cX3_failures 6 = .ok (.if_icmp .ge 21, 3) := by decide +kernel
theorem dX3_failures_9 : decode cX3_failures 9 = .ok (.iload_n 2, 1) := by decide +kernel
theorem dX3_failures_10 : decode cX3_failures 10 = .ok (.aload_n 0, 1) := by decide +kernel
theorem dX3_failures_11 : decode cX3_failures 11 = .ok (.iload_n 1, 1) := by decide +kernel
theorem dX3_failures_12 : decode cX3_failures 12 = .ok (.iload_n 3, 1) := by decide +kernel
theorem dX3_failures_13 : decode cX3_failures 13 = .ok (.invokevirtual 149, 3) := by decide +kernel
theorem dX3_failures_16 : decode cX3_failures 16 = .ok (.invokestatic 153, 3) := by decide +kernel
theorem dX3_failures_19 : decode cX3_failures 19 = .ok (.iadd, 1) := by decide +kernel
theorem dX3_failures_20 : decode cX3_failures 20 = .ok (.istore_n 2, 1) := by decide +kernel
theorem dX3_failures_21 : decode cX3_failures 21 = .ok (.iinc 3 1, 3) := by decide +kernel
theorem dX3_failures_24 : decode cX3_failures 24 = .ok (.goto (-20), 3) := by decide +kernel
theorem dX3_failures_27 : decode cX3_failures 27 = .ok (.iload_n 2, 1) := by decide +kernel
theorem dX3_failures_28 : decode cX3_failures 28 = .ok (.ireturn, 1) := by decide +kernel
theorem dX3_failuresIn_0 : decode cX3_failuresIn 0 = .ok (.aload_n 0, 1) := by decide +kernel
theorem dX3_failuresIn_1 : decode cX3_failuresIn 1 = .ok (.getfield 41, 3) := by decide +kernel
theorem dX3_failuresIn_4 : decode cX3_failuresIn 4 = .ok (.aload_n 0, 1) := by decide +kernel
theorem dX3_failuresIn_5 : decode cX3_failuresIn 5 = .ok (.iload_n 1, 1) := by decide +kernel
theorem dX3_failuresIn_6 : decode cX3_failuresIn 6 = .ok (.invokevirtual 72, 3) := by decide +kernel
theorem dX3_failuresIn_9 : decode cX3_failuresIn 9 = .ok (.iload_n 2, 1) := by decide +kernel
theorem dX3_failuresIn_10 : decode cX3_failuresIn 10 = .ok (.invokevirtual 159, 3) := by decide +kernel
theorem dX3_failuresIn_13 : decode cX3_failuresIn 13 = .ok (.ldc2_w 162, 3) := by decide +kernel
theorem dX3_failuresIn_16 : decode cX3_failuresIn 16 = .ok (.lxor, 1) := by decide +kernel
theorem dX3_failuresIn_17 : decode cX3_failuresIn 17 = .ok (.lstore_n 3, 1) := by decide +kernel
theorem dX3_failuresIn_18 : decode cX3_failuresIn 18 = .ok (.aload_n 0, 1) := by decide +kernel
theorem dX3_failuresIn_19 : decode cX3_failuresIn 19 = .ok (.invokevirtual 164, 3) := by decide +kernel
theorem dX3_failuresIn_22 : decode cX3_failuresIn 22 = .ok (.istore 5, 2) := by decide +kernel
theorem dX3_failuresIn_24 : decode cX3_failuresIn 24 = .ok (.iconst 0, 1) := by decide +kernel
theorem dX3_failuresIn_25 : decode cX3_failuresIn 25 = .ok (.istore 6, 2) := by decide +kernel
theorem dX3_failuresIn_27 : decode cX3_failuresIn 27 = .ok (.iload 6, 2) := by decide +kernel
theorem dX3_failuresIn_29 : decode cX3_failuresIn 29 = .ok (.iload 5, 2) := by decide +kernel
theorem dX3_failuresIn_31 : decode cX3_failuresIn 31 = .ok (.if_icmp .ge 26, 3) := by decide +kernel
theorem dX3_failuresIn_34 : decode cX3_failuresIn 34 = .ok (.lload_n 3, 1) := by decide +kernel
theorem dX3_failuresIn_35 : decode cX3_failuresIn 35 = .ok (.aload_n 0, 1) := by decide +kernel
theorem dX3_failuresIn_36 : decode cX3_failuresIn 36 = .ok (.getfield 41, 3) := by decide +kernel
theorem dX3_failuresIn_39 : decode cX3_failuresIn 39 = .ok (.aload_n 0, 1) := by decide +kernel
theorem dX3_failuresIn_40 : decode cX3_failuresIn 40 = .ok (.iload 6, 2) := by decide +kernel
theorem dX3_failuresIn_42 : decode cX3_failuresIn 42 = .ok (.invokevirtual 72, 3) := by decide +kernel
theorem dX3_failuresIn_45 : decode cX3_failuresIn 45 = .ok (.iload_n 2, 1) := by decide +kernel
theorem dX3_failuresIn_46 : decode cX3_failuresIn 46 = .ok (.invokevirtual 159, 3) := by decide +kernel
theorem dX3_failuresIn_49 : decode cX3_failuresIn 49 = .ok (.land, 1) := by decide +kernel
theorem dX3_failuresIn_50 : decode cX3_failuresIn 50 = .ok (.lstore_n 3, 1) := by decide +kernel
theorem dX3_failuresIn_51 : decode cX3_failuresIn 51 = .ok (.iinc 6 1, 3) := by decide +kernel
theorem dX3_failuresIn_54 : decode cX3_failuresIn 54 = .ok (.goto (-27), 3) := by decide +kernel
theorem dX3_failuresIn_57 : decode cX3_failuresIn 57 = .ok (.aload_n 0, 1) := by decide +kernel
theorem dX3_failuresIn_58 : decode cX3_failuresIn 58 = .ok (.iload_n 1, 1) := by decide +kernel
theorem dX3_failuresIn_59 : decode cX3_failuresIn 59 = .ok (.invokevirtual 167, 3) := by decide +kernel
theorem dX3_failuresIn_62 : decode cX3_failuresIn 62 = .ok (.istore 6, 2) := by decide +kernel
theorem dX3_failuresIn_64 : decode cX3_failuresIn 64 = .ok (.iconst 0, 1) := by decide +kernel
theorem dX3_failuresIn_65 : decode cX3_failuresIn 65 = .ok (.istore 7, 2) := by decide +kernel
theorem dX3_failuresIn_67 : decode cX3_failuresIn 67 = .ok (.iload 7, 2) := by decide +kernel
theorem dX3_failuresIn_69 : decode cX3_failuresIn 69 = .ok (.bipush 6, 2) := by decide +kernel
theorem dX3_failuresIn_71 : decode cX3_failuresIn 71 = .ok (.if_icmp .ge 42, 3) := by decide +kernel
theorem dX3_failuresIn_74 : decode cX3_failuresIn 74 = .ok (.iload 6, 2) := by decide +kernel
theorem dX3_failuresIn_76 : decode cX3_failuresIn 76 = .ok (.ifCond .lt 37, 3) := by decide +kernel
theorem dX3_failuresIn_79 : decode cX3_failuresIn 79 = .ok (.lload_n 3, 1) := by decide +kernel
theorem dX3_failuresIn_80 : decode cX3_failuresIn 80 = .ok (.aload_n 0, 1) := by decide +kernel
theorem dX3_failuresIn_81 : decode cX3_failuresIn 81 = .ok (.getfield 41, 3) := by decide +kernel
theorem dX3_failuresIn_84 : decode cX3_failuresIn 84 = .ok (.aload_n 0, 1) := by decide +kernel
theorem dX3_failuresIn_85 : decode cX3_failuresIn 85 = .ok (.iload 6, 2) := by decide +kernel
theorem dX3_failuresIn_87 : decode cX3_failuresIn 87 = .ok (.invokevirtual 170, 3) := by decide +kernel
theorem dX3_failuresIn_90 : decode cX3_failuresIn 90 = .ok (.iload_n 2, 1) := by decide +kernel
theorem dX3_failuresIn_91 : decode cX3_failuresIn 91 = .ok (.invokevirtual 159, 3) := by decide +kernel
theorem dX3_failuresIn_94 : decode cX3_failuresIn 94 = .ok (.land, 1) := by decide +kernel
theorem dX3_failuresIn_95 : decode cX3_failuresIn 95 = .ok (.lstore_n 3, 1) := by decide +kernel
theorem dX3_failuresIn_96 : decode cX3_failuresIn 96 = .ok (.aload_n 0, 1) := by decide +kernel
theorem dX3_failuresIn_97 : decode cX3_failuresIn 97 = .ok (.getfield 12, 3) := by decide +kernel
theorem dX3_failuresIn_100 : decode cX3_failuresIn 100 = .ok (.iload 6, 2) := by decide +kernel
theorem dX3_failuresIn_102 : decode cX3_failuresIn 102 = .ok (.invokevirtual 69, 3) := by decide +kernel
theorem dX3_failuresIn_105 : decode cX3_failuresIn 105 = .ok (.istore 6, 2) := by decide +kernel
theorem dX3_failuresIn_107 : decode cX3_failuresIn 107 = .ok (.iinc 7 1, 3) := by decide +kernel
theorem dX3_failuresIn_110 : decode cX3_failuresIn 110 = .ok (.goto (-43), 3) := by decide +kernel
theorem dX3_failuresIn_113 : decode cX3_failuresIn 113 = .ok (.lload_n 3, 1) := by decide +kernel
theorem dX3_failuresIn_114 : decode cX3_failuresIn 114 = .ok (.lreturn, 1) := by decide +kernel
theorem dX4_init_0 : decode cX4_init 0 = .ok (.aload_n 0, 1) := by decide +kernel
theorem dX4_init_1 : decode cX4_init 1 = .ok (.invokespecial 3, 3) := by decide +kernel
theorem dX4_init_4 : decode cX4_init 4 = .ok (.aload_n 0, 1) := by decide +kernel
theorem dX4_init_5 : decode cX4_init 5 = .ok (.iconst 4, 1) := by decide +kernel
theorem dX4_init_6 : decode cX4_init 6 = .ok (.newarray .int, 2) := by decide +kernel
theorem dX4_init_8 : decode cX4_init 8 = .ok (.putfield 9, 3) := by decide +kernel
theorem dX4_init_11 : decode cX4_init 11 = .ok (.aload_n 0, 1) := by decide +kernel
theorem dX4_init_12 : decode cX4_init 12 = .ok (.aload_n 1, 1) := by decide +kernel
theorem dX4_init_13 : decode cX4_init 13 = .ok (.putfield 15, 3) := by decide +kernel
theorem dX4_init_16 : decode cX4_init 16 = .ok (.aload_n 0, 1) := by decide +kernel
theorem dX4_init_17 : decode cX4_init 17 = .ok (.aload_n 2, 1) := by decide +kernel
theorem dX4_init_18 : decode cX4_init 18 = .ok (.putfield 19, 3) := by decide +kernel
theorem dX4_init_21 : decode cX4_init 21 = .ok (.aload_n 0, 1) := by decide +kernel
theorem dX4_init_22 : decode cX4_init 22 = .ok (.aload_n 3, 1) := by decide +kernel
theorem dX4_init_23 : decode cX4_init 23 = .ok (.putfield 23, 3) := by decide +kernel
theorem dX4_init_26 : decode cX4_init 26 = .ok (.return_, 1) := by decide +kernel
theorem dX4_refusal_0 : decode cX4_refusal 0 = .ok (.aload_n 0, 1) := by decide +kernel
theorem dX4_refusal_1 : decode cX4_refusal 1 = .ok (.aload_n 0, 1) := by decide +kernel
theorem dX4_refusal_2 : decode cX4_refusal 2 = .ok (.getfield 23, 3) := by decide +kernel
theorem dX4_refusal_5 : decode cX4_refusal 5 = .ok (.iload_n 1, 1) := by decide +kernel
theorem dX4_refusal_6 : decode cX4_refusal 6 = .ok (.iconst 0, 1) := by decide +kernel
theorem dX4_refusal_7 : decode cX4_refusal 7 = .ok (.iload_n 3, 1) := by decide +kernel
theorem dX4_refusal_8 : decode cX4_refusal 8 = .ok (.invokevirtual 27, 3) := by decide +kernel
theorem dX4_refusal_11 : decode cX4_refusal 11 = .ok (.iload_n 3, 1) := by decide +kernel
theorem dX4_refusal_12 : decode cX4_refusal 12 = .ok (.invokevirtual 33, 3) := by decide +kernel
theorem dX4_refusal_15 : decode cX4_refusal 15 = .ok (.ifCond .eq 41, 3) := by decide +kernel
theorem dX4_refusal_18 : decode cX4_refusal 18 = .ok (.aload_n 0, 1) := by decide +kernel
theorem dX4_refusal_19 : decode cX4_refusal 19 = .ok (.aload_n 0, 1) := by decide +kernel
theorem dX4_refusal_20 : decode cX4_refusal 20 = .ok (.getfield 23, 3) := by decide +kernel
theorem dX4_refusal_23 : decode cX4_refusal 23 = .ok (.iload_n 1, 1) := by decide +kernel
theorem dX4_refusal_24 : decode cX4_refusal 24 = .ok (.iconst 1, 1) := by decide +kernel
theorem dX4_refusal_25 : decode cX4_refusal 25 = .ok (.iload_n 3, 1) := by decide +kernel
theorem dX4_refusal_26 : decode cX4_refusal 26 = .ok (.invokevirtual 27, 3) := by decide +kernel
theorem dX4_refusal_29 : decode cX4_refusal 29 = .ok (.iload 4, 2) := by decide +kernel
theorem dX4_refusal_31 : decode cX4_refusal 31 = .ok (.invokevirtual 33, 3) := by decide +kernel
theorem dX4_refusal_34 : decode cX4_refusal 34 = .ok (.ifCond .eq 22, 3) := by decide +kernel
theorem dX4_refusal_37 : decode cX4_refusal 37 = .ok (.aload_n 0, 1) := by decide +kernel
theorem dX4_refusal_38 : decode cX4_refusal 38 = .ok (.aload_n 0, 1) := by decide +kernel
theorem dX4_refusal_39 : decode cX4_refusal 39 = .ok (.getfield 23, 3) := by decide +kernel
theorem dX4_refusal_42 : decode cX4_refusal 42 = .ok (.iload_n 1, 1) := by decide +kernel
theorem dX4_refusal_43 : decode cX4_refusal 43 = .ok (.iconst 2, 1) := by decide +kernel
theorem dX4_refusal_44 : decode cX4_refusal 44 = .ok (.iload_n 3, 1) := by decide +kernel
theorem dX4_refusal_45 : decode cX4_refusal 45 = .ok (.invokevirtual 27, 3) := by decide +kernel
theorem dX4_refusal_48 : decode cX4_refusal 48 = .ok (.iload 5, 2) := by decide +kernel
theorem dX4_refusal_50 : decode cX4_refusal 50 = .ok (.invokevirtual 33, 3) := by decide +kernel
theorem dX4_refusal_53 : decode cX4_refusal 53 = .ok (.ifCond .ne 5, 3) := by decide +kernel
theorem dX4_refusal_56 : decode cX4_refusal 56 = .ok (.iconst 1, 1) := by decide +kernel
theorem dX4_refusal_57 : decode cX4_refusal 57 = .ok (.ireturn, 1) := by decide +kernel
theorem dX4_refusal_58 : decode cX4_refusal 58 = .ok (.aload_n 0, 1) := by decide +kernel
theorem dX4_refusal_59 : decode cX4_refusal 59 = .ok (.iload_n 1, 1) := by decide +kernel
theorem dX4_refusal_60 : decode cX4_refusal 60 = .ok (.iload_n 3, 1) := by decide +kernel
theorem dX4_refusal_61 : decode cX4_refusal 61 = .ok (.iload 4, 2) := by decide +kernel
theorem dX4_refusal_63 : decode cX4_refusal 63 = .ok (.invokevirtual 37, 3) := by decide +kernel
theorem dX4_refusal_66 : decode cX4_refusal 66 = .ok (.ifCond .ne 5, 3) := by decide +kernel
theorem dX4_refusal_69 : decode cX4_refusal 69 = .ok (.iconst 2, 1) := by decide +kernel
theorem dX4_refusal_70 : decode cX4_refusal 70 = .ok (.ireturn, 1) := by decide +kernel
theorem dX4_refusal_71 : decode cX4_refusal 71 = .ok (.iload_n 1, 1) := by decide +kernel
theorem dX4_refusal_72 : decode cX4_refusal 72 = .ok (.bipush 13, 2) := by decide +kernel
theorem dX4_refusal_74 : decode cX4_refusal 74 = .ok (.if_icmp .ne 16, 3) := by decide +kernel
theorem dX4_refusal_77 : decode cX4_refusal 77 = .ok (.aload_n 0, 1) := by decide +kernel
theorem dX4_refusal_78 : decode cX4_refusal 78 = .ok (.iload_n 2, 1) := by decide +kernel
theorem dX4_refusal_79 : decode cX4_refusal 79 = .ok (.iload_n 3, 1) := by decide +kernel
theorem dX4_refusal_80 : decode cX4_refusal 80 = .ok (.iload 4, 2) := by decide +kernel
theorem dX4_refusal_82 : decode cX4_refusal 82 = .ok (.iload 5, 2) := by decide +kernel
theorem dX4_refusal_84 : decode cX4_refusal 84 = .ok (.invokevirtual 41, 3) := by decide +kernel
theorem dX4_refusal_87 : decode cX4_refusal 87 = .ok (.goto 42, 3) := by decide +kernel
theorem dX4_refusal_90 : decode cX4_refusal 90 = .ok (.aload_n 0, 1) := by decide +kernel
theorem dX4_refusal_91 : decode cX4_refusal 91 = .ok (.iload_n 1, 1) := by decide +kernel
theorem dX4_refusal_92 : decode cX4_refusal 92 = .ok (.iload_n 2, 1) := by decide +kernel
theorem dX4_refusal_93 : decode cX4_refusal 93 = .ok (.iload_n 3, 1) := by decide +kernel
theorem dX4_refusal_94 : decode cX4_refusal 94 = .ok (.invokevirtual 45, 3) := by decide +kernel
theorem dX4_refusal_97 : decode cX4_refusal 97 = .ok (.ifCond .eq 31, 3) := by decide +kernel
theorem dX4_refusal_100 : decode cX4_refusal 100 = .ok (.aload_n 0, 1) := by decide +kernel
theorem dX4_refusal_101 : decode cX4_refusal 101 = .ok (.iload_n 1, 1) := by decide +kernel
theorem dX4_refusal_102 : decode cX4_refusal 102 = .ok (.iload_n 2, 1) := by decide +kernel
theorem dX4_refusal_103 : decode cX4_refusal 103 = .ok (.iload_n 3, 1) := by decide +kernel
theorem dX4_refusal_104 : decode cX4_refusal 104 = .ok (.iload 4, 2) := by decide +kernel
theorem dX4_refusal_106 : decode cX4_refusal 106 = .ok (.invokevirtual 48, 3) := by decide +kernel
theorem dX4_refusal_109 : decode cX4_refusal 109 = .ok (.ifCond .eq 19, 3) := by decide +kernel
theorem dX4_refusal_112 : decode cX4_refusal 112 = .ok (.aload_n 0, 1) := by decide +kernel
theorem dX4_refusal_113 : decode cX4_refusal 113 = .ok (.iload_n 1, 1) := by decide +kernel
theorem dX4_refusal_114 : decode cX4_refusal 114 = .ok (.iload_n 2, 1) := by decide +kernel
theorem dX4_refusal_115 : decode cX4_refusal 115 = .ok (.iload_n 3, 1) := by decide +kernel
theorem dX4_refusal_116 : decode cX4_refusal 116 = .ok (.iload 5, 2) := by decide +kernel
theorem dX4_refusal_118 : decode cX4_refusal 118 = .ok (.invokevirtual 51, 3) := by decide +kernel
theorem dX4_refusal_121 : decode cX4_refusal 121 = .ok (.ifCond .eq 7, 3) := by decide +kernel
theorem dX4_refusal_124 : decode cX4_refusal 124 = .ok (.iconst 1, 1) := by decide +kernel
theorem dX4_refusal_125 : decode cX4_refusal 125 = .ok (.goto 4, 3) := by decide +kernel
theorem dX4_refusal_128 : decode cX4_refusal 128 = .ok (.iconst 0, 1) := by decide +kernel
theorem dX4_refusal_129 : decode cX4_refusal 129 = .ok (.istore 6, 2) := by decide +kernel
theorem dX4_refusal_131 : decode cX4_refusal 131 = .ok (.iload 6, 2) := by decide +kernel
theorem dX4_refusal_133 : decode cX4_refusal 133 = .ok (.ifCond .eq 7, 3) := by decide +kernel
theorem dX4_refusal_136 : decode cX4_refusal 136 = .ok (.iconst 0, 1) := by decide +kernel
theorem dX4_refusal_137 : decode cX4_refusal 137 = .ok (.goto 4, 3) := by decide +kernel
theorem dX4_refusal_140 : decode cX4_refusal 140 = .ok (.iconst 3, 1) := by decide +kernel
theorem dX4_refusal_141 : decode cX4_refusal 141 = .ok (.ireturn, 1) := by decide +kernel
theorem dX4_reaches_0 : decode cX4_reaches 0 = .ok (.iload_n 1, 1) := by decide +kernel
theorem dX4_reaches_1 : decode cX4_reaches 1 = .ok (.tableswitch 54 1 3 #[27, 36, 45], 27) := by decide +kernel
theorem dX4_reaches_28 : decode cX4_reaches 28 = .ok (.aload_n 0, 1) := by decide +kernel
theorem dX4_reaches_29 : decode cX4_reaches 29 = .ok (.getfield 23, 3) := by decide +kernel
theorem dX4_reaches_32 : decode cX4_reaches 32 = .ok (.iload_n 2, 1) := by decide +kernel
theorem dX4_reaches_33 : decode cX4_reaches 33 = .ok (.invokevirtual 54, 3) := by decide +kernel
theorem dX4_reaches_36 : decode cX4_reaches 36 = .ok (.ireturn, 1) := by decide +kernel
theorem dX4_reaches_37 : decode cX4_reaches 37 = .ok (.aload_n 0, 1) := by decide +kernel
theorem dX4_reaches_38 : decode cX4_reaches 38 = .ok (.getfield 23, 3) := by decide +kernel
theorem dX4_reaches_41 : decode cX4_reaches 41 = .ok (.iload_n 2, 1) := by decide +kernel
theorem dX4_reaches_42 : decode cX4_reaches 42 = .ok (.invokevirtual 58, 3) := by decide +kernel
theorem dX4_reaches_45 : decode cX4_reaches 45 = .ok (.ireturn, 1) := by decide +kernel
theorem dX4_reaches_46 : decode cX4_reaches 46 = .ok (.aload_n 0, 1) := by decide +kernel
theorem dX4_reaches_47 : decode cX4_reaches 47 = .ok (.getfield 19, 3) := by decide +kernel
theorem dX4_reaches_50 : decode cX4_reaches 50 = .ok (.iload_n 2, 1) := by decide +kernel
theorem dX4_reaches_51 : decode cX4_reaches 51 = .ok (.invokevirtual 61, 3) := by decide +kernel
theorem dX4_reaches_54 : decode cX4_reaches 54 = .ok (.ireturn, 1) := by decide +kernel
theorem dX4_reaches_55 : decode cX4_reaches 55 = .ok (.iconst 1, 1) := by decide +kernel
theorem dX4_reaches_56 : decode cX4_reaches 56 = .ok (.ireturn, 1) := by decide +kernel
theorem dX4_hasForm_0 : decode cX4_hasForm 0 = .ok (.aload_n 0, 1) := by decide +kernel
theorem dX4_hasForm_1 : decode cX4_hasForm 1 = .ok (.getfield 23, 3) := by decide +kernel
theorem dX4_hasForm_4 : decode cX4_hasForm 4 = .ok (.iload_n 2, 1) := by decide +kernel
theorem dX4_hasForm_5 : decode cX4_hasForm 5 = .ok (.invokevirtual 66, 3) := by decide +kernel
theorem dX4_hasForm_8 : decode cX4_hasForm 8 = .ok (.istore 4, 2) := by decide +kernel
theorem dX4_hasForm_10 : decode cX4_hasForm 10 = .ok (.iload_n 1, 1) := by decide +kernel
theorem dX4_hasForm_11 : decode cX4_hasForm 11 = .ok (.tableswitch 222 2 12 #[57, 57, 222, 222, 76, 222, 95, 114, 139, 164, 183], 57) := by decide +kernel
theorem dX4_hasForm_68 : decode cX4_hasForm 68 = .ok (.aload_n 0, 1) := by decide +kernel
theorem dX4_hasForm_69 : decode cX4_hasForm 69 = .ok (.getfield 15, 3) := by decide +kernel
theorem dX4_hasForm_72 : decode cX4_hasForm 72 = .ok (.iload 4, 2) := by decide +kernel
theorem dX4_hasForm_74 : decode cX4_hasForm 74 = .ok (.invokevirtual 70, 3) := by decide +kernel
theorem dX4_hasForm_77 : decode cX4_hasForm 77 = .ok (.iconst 3, 1) := by decide +kernel
theorem dX4_hasForm_78 : decode cX4_hasForm 78 = .ok (.if_icmp .ne 7, 3) := by decide +kernel
theorem dX4_hasForm_81 : decode cX4_hasForm 81 = .ok (.iconst 1, 1) := by decide +kernel
theorem dX4_hasForm_82 : decode cX4_hasForm 82 = .ok (.goto 4, 3) := by decide +kernel
theorem dX4_hasForm_85 : decode cX4_hasForm 85 = .ok (.iconst 0, 1) := by decide +kernel
theorem dX4_hasForm_86 : decode cX4_hasForm 86 = .ok (.ireturn, 1) := by decide +kernel
theorem dX4_hasForm_87 : decode cX4_hasForm 87 = .ok (.aload_n 0, 1) := by decide +kernel
theorem dX4_hasForm_88 : decode cX4_hasForm 88 = .ok (.getfield 15, 3) := by decide +kernel
theorem dX4_hasForm_91 : decode cX4_hasForm 91 = .ok (.iload 4, 2) := by decide +kernel
theorem dX4_hasForm_93 : decode cX4_hasForm 93 = .ok (.invokevirtual 70, 3) := by decide +kernel
theorem dX4_hasForm_96 : decode cX4_hasForm 96 = .ok (.iconst 4, 1) := by decide +kernel
theorem dX4_hasForm_97 : decode cX4_hasForm 97 = .ok (.if_icmp .ne 7, 3) := by decide +kernel
theorem dX4_hasForm_100 : decode cX4_hasForm 100 = .ok (.iconst 1, 1) := by decide +kernel
theorem dX4_hasForm_101 : decode cX4_hasForm 101 = .ok (.goto 4, 3) := by decide +kernel
theorem dX4_hasForm_104 : decode cX4_hasForm 104 = .ok (.iconst 0, 1) := by decide +kernel
theorem dX4_hasForm_105 : decode cX4_hasForm 105 = .ok (.ireturn, 1) := by decide +kernel
theorem dX4_hasForm_106 : decode cX4_hasForm 106 = .ok (.aload_n 0, 1) := by decide +kernel
theorem dX4_hasForm_107 : decode cX4_hasForm 107 = .ok (.getfield 15, 3) := by decide +kernel
theorem dX4_hasForm_110 : decode cX4_hasForm 110 = .ok (.iload 4, 2) := by decide +kernel
theorem dX4_hasForm_112 : decode cX4_hasForm 112 = .ok (.invokevirtual 70, 3) := by decide +kernel
theorem dX4_hasForm_115 : decode cX4_hasForm 115 = .ok (.iconst 5, 1) := by decide +kernel
theorem dX4_hasForm_116 : decode cX4_hasForm 116 = .ok (.if_icmp .ne 7, 3) := by decide +kernel
theorem dX4_hasForm_119 : decode cX4_hasForm 119 = .ok (.iconst 1, 1) := by decide +kernel
theorem dX4_hasForm_120 : decode cX4_hasForm 120 = .ok (.goto 4, 3) := by decide +kernel
theorem dX4_hasForm_123 : decode cX4_hasForm 123 = .ok (.iconst 0, 1) := by decide +kernel
theorem dX4_hasForm_124 : decode cX4_hasForm 124 = .ok (.ireturn, 1) := by decide +kernel
theorem dX4_hasForm_125 : decode cX4_hasForm 125 = .ok (.aload_n 0, 1) := by decide +kernel
theorem dX4_hasForm_126 : decode cX4_hasForm 126 = .ok (.getfield 15, 3) := by decide +kernel
theorem dX4_hasForm_129 : decode cX4_hasForm 129 = .ok (.aload_n 0, 1) := by decide +kernel
theorem dX4_hasForm_130 : decode cX4_hasForm 130 = .ok (.getfield 23, 3) := by decide +kernel
theorem dX4_hasForm_133 : decode cX4_hasForm 133 = .ok (.iload_n 2, 1) := by decide +kernel
theorem dX4_hasForm_134 : decode cX4_hasForm 134 = .ok (.invokevirtual 75, 3) := by decide +kernel
theorem dX4_hasForm_137 : decode cX4_hasForm 137 = .ok (.invokevirtual 70, 3) := by decide +kernel
theorem dX4_hasForm_140 : decode cX4_hasForm 140 = .ok (.iconst 1, 1) := by decide +kernel
theorem dX4_hasForm_141 : decode cX4_hasForm 141 = .ok (.if_icmp .ne 7, 3) := by decide +kernel
theorem dX4_hasForm_144 : decode cX4_hasForm 144 = .ok (.iconst 1, 1) := by decide +kernel
theorem dX4_hasForm_145 : decode cX4_hasForm 145 = .ok (.goto 4, 3) := by decide +kernel
theorem dX4_hasForm_148 : decode cX4_hasForm 148 = .ok (.iconst 0, 1) := by decide +kernel
theorem dX4_hasForm_149 : decode cX4_hasForm 149 = .ok (.ireturn, 1) := by decide +kernel
theorem dX4_hasForm_150 : decode cX4_hasForm 150 = .ok (.aload_n 0, 1) := by decide +kernel
theorem dX4_hasForm_151 : decode cX4_hasForm 151 = .ok (.getfield 15, 3) := by decide +kernel
theorem dX4_hasForm_154 : decode cX4_hasForm 154 = .ok (.aload_n 0, 1) := by decide +kernel
theorem dX4_hasForm_155 : decode cX4_hasForm 155 = .ok (.getfield 23, 3) := by decide +kernel
theorem dX4_hasForm_158 : decode cX4_hasForm 158 = .ok (.iload_n 3, 1) := by decide +kernel
theorem dX4_hasForm_159 : decode cX4_hasForm 159 = .ok (.invokevirtual 66, 3) := by decide +kernel
theorem dX4_hasForm_162 : decode cX4_hasForm 162 = .ok (.invokevirtual 70, 3) := by decide +kernel
theorem dX4_hasForm_165 : decode cX4_hasForm 165 = .ok (.iconst 2, 1) := by decide +kernel
theorem dX4_hasForm_166 : decode cX4_hasForm 166 = .ok (.if_icmp .ne 7, 3) := by decide +kernel
theorem dX4_hasForm_169 : decode cX4_hasForm 169 = .ok (.iconst 1, 1) := by decide +kernel
theorem dX4_hasForm_170 : decode cX4_hasForm 170 = .ok (.goto 4, 3) := by decide +kernel
theorem dX4_hasForm_173 : decode cX4_hasForm 173 = .ok (.iconst 0, 1) := by decide +kernel
theorem dX4_hasForm_174 : decode cX4_hasForm 174 = .ok (.ireturn, 1) := by decide +kernel
theorem dX4_hasForm_175 : decode cX4_hasForm 175 = .ok (.aload_n 0, 1) := by decide +kernel
theorem dX4_hasForm_176 : decode cX4_hasForm 176 = .ok (.getfield 15, 3) := by decide +kernel
theorem dX4_hasForm_179 : decode cX4_hasForm 179 = .ok (.iload 4, 2) := by decide +kernel
theorem dX4_hasForm_181 : decode cX4_hasForm 181 = .ok (.invokevirtual 70, 3) := by decide +kernel
theorem dX4_hasForm_184 : decode cX4_hasForm 184 = .ok (.iconst 1, 1) := by decide +kernel
theorem dX4_hasForm_185 : decode cX4_hasForm 185 = .ok (.if_icmp .ne 7, 3) := by decide +kernel
theorem dX4_hasForm_188 : decode cX4_hasForm 188 = .ok (.iconst 1, 1) := by decide +kernel
theorem dX4_hasForm_189 : decode cX4_hasForm 189 = .ok (.goto 4, 3) := by decide +kernel
theorem dX4_hasForm_192 : decode cX4_hasForm 192 = .ok (.iconst 0, 1) := by decide +kernel
theorem dX4_hasForm_193 : decode cX4_hasForm 193 = .ok (.ireturn, 1) := by decide +kernel
theorem dX4_hasForm_194 : decode cX4_hasForm 194 = .ok (.aload_n 0, 1) := by decide +kernel
theorem dX4_hasForm_195 : decode cX4_hasForm 195 = .ok (.getfield 15, 3) := by decide +kernel
theorem dX4_hasForm_198 : decode cX4_hasForm 198 = .ok (.iload 4, 2) := by decide +kernel
theorem dX4_hasForm_200 : decode cX4_hasForm 200 = .ok (.invokevirtual 70, 3) := by decide +kernel
theorem dX4_hasForm_203 : decode cX4_hasForm 203 = .ok (.iconst 2, 1) := by decide +kernel
theorem dX4_hasForm_204 : decode cX4_hasForm 204 = .ok (.if_icmp .ne 27, 3) := by decide +kernel
theorem dX4_hasForm_207 : decode cX4_hasForm 207 = .ok (.aload_n 0, 1) := by decide +kernel
theorem dX4_hasForm_208 : decode cX4_hasForm 208 = .ok (.getfield 15, 3) := by decide +kernel
theorem dX4_hasForm_211 : decode cX4_hasForm 211 = .ok (.aload_n 0, 1) := by decide +kernel
theorem dX4_hasForm_212 : decode cX4_hasForm 212 = .ok (.getfield 15, 3) := by decide +kernel
theorem dX4_hasForm_215 : decode cX4_hasForm 215 = .ok (.iload 4, 2) := by decide +kernel
theorem dX4_hasForm_217 : decode cX4_hasForm 217 = .ok (.invokevirtual 78, 3) := by decide +kernel
theorem dX4_hasForm_220 : decode cX4_hasForm 220 = .ok (.invokevirtual 70, 3) := by decide +kernel
theorem dX4_hasForm_223 : decode cX4_hasForm 223 = .ok (.iconst 2, 1) := by decide +kernel
theorem dX4_hasForm_224 : decode cX4_hasForm 224 = .ok (.if_icmp .ne 7, 3) := by decide +kernel
theorem dX4_hasForm_227 : decode cX4_hasForm 227 = .ok (.iconst 1, 1) := by decide +kernel
theorem dX4_hasForm_228 : decode cX4_hasForm 228 = .ok (.goto 4, 3) := by decide +kernel
theorem dX4_hasForm_231 : decode cX4_hasForm 231 = .ok (.iconst 0, 1) := by decide +kernel
theorem dX4_hasForm_232 : decode cX4_hasForm 232 = .ok (.ireturn, 1) := by decide +kernel
theorem dX4_hasForm_233 : decode cX4_hasForm 233 = .ok (.iconst 1, 1) := by decide +kernel
theorem dX4_hasForm_234 : decode cX4_hasForm 234 = .ok (.ireturn, 1) := by decide +kernel
theorem dX4_firstFits_0 : decode cX4_firstFits 0 = .ok (.aload_n 0, 1) := by decide +kernel
theorem dX4_firstFits_1 : decode cX4_firstFits 1 = .ok (.getfield 15, 3) := by decide +kernel
theorem dX4_firstFits_4 : decode cX4_firstFits 4 = .ok (.iload_n 2, 1) := by decide +kernel
theorem dX4_firstFits_5 : decode cX4_firstFits 5 = .ok (.invokevirtual 70, 3) := by decide +kernel
theorem dX4_firstFits_8 : decode cX4_firstFits 8 = .ok (.istore 4, 2) := by decide +kernel
theorem dX4_firstFits_10 : decode cX4_firstFits 10 = .ok (.aload_n 0, 1) := by decide +kernel
theorem dX4_firstFits_11 : decode cX4_firstFits 11 = .ok (.getfield 23, 3) := by decide +kernel
theorem dX4_firstFits_14 : decode cX4_firstFits 14 = .ok (.iload_n 3, 1) := by decide +kernel
theorem dX4_firstFits_15 : decode cX4_firstFits 15 = .ok (.invokevirtual 66, 3) := by decide +kernel
theorem dX4_firstFits_18 : decode cX4_firstFits 18 = .ok (.istore 5, 2) := by decide +kernel
theorem dX4_firstFits_20 : decode cX4_firstFits 20 = .ok (.iload_n 1, 1) := by decide +kernel
theorem dX4_firstFits_21 : decode cX4_firstFits 21 = .ok (.tableswitch 311 0 12 #[67, 79, 104, 123, 142, 167, 311, 192, 123, 242, 273, 311, 285], 67) := by decide +kernel
theorem dX4_firstFits_88 : decode cX4_firstFits 88 = .ok (.iload 5, 2) := by decide +kernel
theorem dX4_firstFits_90 : decode cX4_firstFits 90 = .ok (.iload_n 2, 1) := by decide +kernel
theorem dX4_firstFits_91 : decode cX4_firstFits 91 = .ok (.if_icmp .ne 7, 3) := by decide +kernel
theorem dX4_firstFits_94 : decode cX4_firstFits 94 = .ok (.iconst 1, 1) := by decide +kernel
theorem dX4_firstFits_95 : decode cX4_firstFits 95 = .ok (.goto 4, 3) := by decide +kernel
theorem dX4_firstFits_98 : decode cX4_firstFits 98 = .ok (.iconst 0, 1) := by decide +kernel
theorem dX4_firstFits_99 : decode cX4_firstFits 99 = .ok (.ireturn, 1) := by decide +kernel
theorem dX4_firstFits_100 : decode cX4_firstFits 100 = .ok (.iload 4, 2) := by decide +kernel
theorem dX4_firstFits_102 : decode cX4_firstFits 102 = .ok (.iconst 3, 1) := by decide +kernel
theorem dX4_firstFits_103 : decode cX4_firstFits 103 = .ok (.if_icmp .ne 20, 3) := by decide +kernel
theorem dX4_firstFits_106 : decode cX4_firstFits 106 = .ok (.aload_n 0, 1) := by decide +kernel
theorem dX4_firstFits_107 : decode cX4_firstFits 107 = .ok (.getfield 15, 3) := by decide +kernel
theorem dX4_firstFits_110 : decode cX4_firstFits 110 = .ok (.iload_n 2, 1) := by decide +kernel
theorem dX4_firstFits_111 : decode cX4_firstFits 111 = .ok (.invokevirtual 78, 3) := by decide +kernel
theorem dX4_firstFits_114 : decode cX4_firstFits 114 = .ok (.iload 5, 2) := by decide +kernel
theorem dX4_firstFits_116 : decode cX4_firstFits 116 = .ok (.if_icmp .ne 7, 3) := by decide +kernel
theorem dX4_firstFits_119 : decode cX4_firstFits 119 = .ok (.iconst 1, 1) := by decide +kernel
theorem dX4_firstFits_120 : decode cX4_firstFits 120 = .ok (.goto 4, 3) := by decide +kernel
theorem dX4_firstFits_123 : decode cX4_firstFits 123 = .ok (.iconst 0, 1) := by decide +kernel
theorem dX4_firstFits_124 : decode cX4_firstFits 124 = .ok (.ireturn, 1) := by decide +kernel
theorem dX4_firstFits_125 : decode cX4_firstFits 125 = .ok (.aload_n 0, 1) := by decide +kernel
theorem dX4_firstFits_126 : decode cX4_firstFits 126 = .ok (.getfield 15, 3) := by decide +kernel
theorem dX4_firstFits_129 : decode cX4_firstFits 129 = .ok (.iload 5, 2) := by decide +kernel
theorem dX4_firstFits_131 : decode cX4_firstFits 131 = .ok (.invokevirtual 78, 3) := by decide +kernel
theorem dX4_firstFits_134 : decode cX4_firstFits 134 = .ok (.iload_n 2, 1) := by decide +kernel
theorem dX4_firstFits_135 : decode cX4_firstFits 135 = .ok (.if_icmp .ne 7, 3) := by decide +kernel
theorem dX4_firstFits_138 : decode cX4_firstFits 138 = .ok (.iconst 1, 1) := by decide +kernel
theorem dX4_firstFits_139 : decode cX4_firstFits 139 = .ok (.goto 4, 3) := by decide +kernel
theorem dX4_firstFits_142 : decode cX4_firstFits 142 = .ok (.iconst 0, 1) := by decide +kernel
theorem dX4_firstFits_143 : decode cX4_firstFits 143 = .ok (.ireturn, 1) := by decide +kernel
theorem dX4_firstFits_144 : decode cX4_firstFits 144 = .ok (.aload_n 0, 1) := by decide +kernel
theorem dX4_firstFits_145 : decode cX4_firstFits 145 = .ok (.getfield 15, 3) := by decide +kernel
theorem dX4_firstFits_148 : decode cX4_firstFits 148 = .ok (.iload 5, 2) := by decide +kernel
theorem dX4_firstFits_150 : decode cX4_firstFits 150 = .ok (.invokevirtual 81, 3) := by decide +kernel
theorem dX4_firstFits_153 : decode cX4_firstFits 153 = .ok (.iload_n 2, 1) := by decide +kernel
theorem dX4_firstFits_154 : decode cX4_firstFits 154 = .ok (.if_icmp .ne 7, 3) := by decide +kernel
theorem dX4_firstFits_157 : decode cX4_firstFits 157 = .ok (.iconst 1, 1) := by decide +kernel
theorem dX4_firstFits_158 : decode cX4_firstFits 158 = .ok (.goto 4, 3) := by decide +kernel
theorem dX4_firstFits_161 : decode cX4_firstFits 161 = .ok (.iconst 0, 1) := by decide +kernel
theorem dX4_firstFits_162 : decode cX4_firstFits 162 = .ok (.ireturn, 1) := by decide +kernel
theorem dX4_firstFits_163 : decode cX4_firstFits 163 = .ok (.iload 4, 2) := by decide +kernel
theorem dX4_firstFits_165 : decode cX4_firstFits 165 = .ok (.iconst 4, 1) := by decide +kernel
theorem dX4_firstFits_166 : decode cX4_firstFits 166 = .ok (.if_icmp .ne 20, 3) := by decide +kernel
theorem dX4_firstFits_169 : decode cX4_firstFits 169 = .ok (.aload_n 0, 1) := by decide +kernel
theorem dX4_firstFits_170 : decode cX4_firstFits 170 = .ok (.getfield 15, 3) := by decide +kernel
theorem dX4_firstFits_173 : decode cX4_firstFits 173 = .ok (.iload_n 2, 1) := by decide +kernel
theorem dX4_firstFits_174 : decode cX4_firstFits 174 = .ok (.invokevirtual 78, 3) := by decide +kernel
theorem dX4_firstFits_177 : decode cX4_firstFits 177 = .ok (.iload 5, 2) := by decide +kernel
theorem dX4_firstFits_179 : decode cX4_firstFits 179 = .ok (.if_icmp .ne 7, 3) := by decide +kernel
theorem dX4_firstFits_182 : decode cX4_firstFits 182 = .ok (.iconst 1, 1) := by decide +kernel
theorem dX4_firstFits_183 : decode cX4_firstFits 183 = .ok (.goto 4, 3) := by decide +kernel
theorem dX4_firstFits_186 : decode cX4_firstFits 186 = .ok (.iconst 0, 1) := by decide +kernel
theorem dX4_firstFits_187 : decode cX4_firstFits 187 = .ok (.ireturn, 1) := by decide +kernel
theorem dX4_firstFits_188 : decode cX4_firstFits 188 = .ok (.iload 4, 2) := by decide +kernel
theorem dX4_firstFits_190 : decode cX4_firstFits 190 = .ok (.iconst 4, 1) := by decide +kernel
theorem dX4_firstFits_191 : decode cX4_firstFits 191 = .ok (.if_icmp .ne 20, 3) := by decide +kernel
theorem dX4_firstFits_194 : decode cX4_firstFits 194 = .ok (.aload_n 0, 1) := by decide +kernel
theorem dX4_firstFits_195 : decode cX4_firstFits 195 = .ok (.getfield 15, 3) := by decide +kernel
theorem dX4_firstFits_198 : decode cX4_firstFits 198 = .ok (.iload_n 2, 1) := by decide +kernel
theorem dX4_firstFits_199 : decode cX4_firstFits 199 = .ok (.invokevirtual 81, 3) := by decide +kernel
theorem dX4_firstFits_202 : decode cX4_firstFits 202 = .ok (.iload 5, 2) := by decide +kernel
theorem dX4_firstFits_204 : decode cX4_firstFits 204 = .ok (.if_icmp .ne 7, 3) := by decide +kernel
theorem dX4_firstFits_207 : decode cX4_firstFits 207 = .ok (.iconst 1, 1) := by decide +kernel
theorem dX4_firstFits_208 : decode cX4_firstFits 208 = .ok (.goto 4, 3) := by decide +kernel
theorem dX4_firstFits_211 : decode cX4_firstFits 211 = .ok (.iconst 0, 1) := by decide +kernel
theorem dX4_firstFits_212 : decode cX4_firstFits 212 = .ok (.ireturn, 1) := by decide +kernel
theorem dX4_firstFits_213 : decode cX4_firstFits 213 = .ok (.iload 4, 2) := by decide +kernel
theorem dX4_firstFits_215 : decode cX4_firstFits 215 = .ok (.iconst 5, 1) := by decide +kernel
theorem dX4_firstFits_216 : decode cX4_firstFits 216 = .ok (.if_icmp .ne 45, 3) := by decide +kernel
theorem dX4_firstFits_219 : decode cX4_firstFits 219 = .ok (.aload_n 0, 1) := by decide +kernel
theorem dX4_firstFits_220 : decode cX4_firstFits 220 = .ok (.getfield 15, 3) := by decide +kernel
theorem dX4_firstFits_223 : decode cX4_firstFits 223 = .ok (.iload_n 2, 1) := by decide +kernel
theorem dX4_firstFits_224 : decode cX4_firstFits 224 = .ok (.invokevirtual 78, 3) := by decide +kernel
theorem dX4_firstFits_227 : decode cX4_firstFits 227 = .ok (.aload_n 0, 1) := by decide +kernel
theorem dX4_firstFits_228 : decode cX4_firstFits 228 = .ok (.getfield 23, 3) := by decide +kernel
theorem dX4_firstFits_231 : decode cX4_firstFits 231 = .ok (.iload_n 3, 1) := by decide +kernel
theorem dX4_firstFits_232 : decode cX4_firstFits 232 = .ok (.invokevirtual 84, 3) := by decide +kernel
theorem dX4_firstFits_235 : decode cX4_firstFits 235 = .ok (.if_icmp .ne 26, 3) := by decide +kernel
theorem dX4_firstFits_238 : decode cX4_firstFits 238 = .ok (.aload_n 0, 1) := by decide +kernel
theorem dX4_firstFits_239 : decode cX4_firstFits 239 = .ok (.getfield 15, 3) := by decide +kernel
theorem dX4_firstFits_242 : decode cX4_firstFits 242 = .ok (.iload_n 2, 1) := by decide +kernel
theorem dX4_firstFits_243 : decode cX4_firstFits 243 = .ok (.invokevirtual 81, 3) := by decide +kernel
theorem dX4_firstFits_246 : decode cX4_firstFits 246 = .ok (.aload_n 0, 1) := by decide +kernel
theorem dX4_firstFits_247 : decode cX4_firstFits 247 = .ok (.getfield 23, 3) := by decide +kernel
theorem dX4_firstFits_250 : decode cX4_firstFits 250 = .ok (.iload_n 3, 1) := by decide +kernel
theorem dX4_firstFits_251 : decode cX4_firstFits 251 = .ok (.invokevirtual 75, 3) := by decide +kernel
theorem dX4_firstFits_254 : decode cX4_firstFits 254 = .ok (.if_icmp .ne 7, 3) := by decide +kernel
theorem dX4_firstFits_257 : decode cX4_firstFits 257 = .ok (.iconst 1, 1) := by decide +kernel
theorem dX4_firstFits_258 : decode cX4_firstFits 258 = .ok (.goto 4, 3) := by decide +kernel
theorem dX4_firstFits_261 : decode cX4_firstFits 261 = .ok (.iconst 0, 1) := by decide +kernel
theorem dX4_firstFits_262 : decode cX4_firstFits 262 = .ok (.ireturn, 1) := by decide +kernel
theorem dX4_firstFits_263 : decode cX4_firstFits 263 = .ok (.iload 4, 2) := by decide +kernel
theorem dX4_firstFits_265 : decode cX4_firstFits 265 = .ok (.iconst 2, 1) := by decide +kernel
theorem dX4_firstFits_266 : decode cX4_firstFits 266 = .ok (.if_icmp .ne 26, 3) := by decide +kernel
theorem dX4_firstFits_269 : decode cX4_firstFits 269 = .ok (.aload_n 0, 1) := by decide +kernel
theorem dX4_firstFits_270 : decode cX4_firstFits 270 = .ok (.getfield 15, 3) := by decide +kernel
theorem dX4_firstFits_273 : decode cX4_firstFits 273 = .ok (.iload_n 2, 1) := by decide +kernel
theorem dX4_firstFits_274 : decode cX4_firstFits 274 = .ok (.invokevirtual 78, 3) := by decide +kernel
theorem dX4_firstFits_277 : decode cX4_firstFits 277 = .ok (.aload_n 0, 1) := by decide +kernel
theorem dX4_firstFits_278 : decode cX4_firstFits 278 = .ok (.getfield 23, 3) := by decide +kernel
theorem dX4_firstFits_281 : decode cX4_firstFits 281 = .ok (.iload_n 3, 1) := by decide +kernel
theorem dX4_firstFits_282 : decode cX4_firstFits 282 = .ok (.invokevirtual 84, 3) := by decide +kernel
theorem dX4_firstFits_285 : decode cX4_firstFits 285 = .ok (.if_icmp .ne 7, 3) := by decide +kernel
theorem dX4_firstFits_288 : decode cX4_firstFits 288 = .ok (.iconst 1, 1) := by decide +kernel
theorem dX4_firstFits_289 : decode cX4_firstFits 289 = .ok (.goto 4, 3) := by decide +kernel
theorem dX4_firstFits_292 : decode cX4_firstFits 292 = .ok (.iconst 0, 1) := by decide +kernel
theorem dX4_firstFits_293 : decode cX4_firstFits 293 = .ok (.ireturn, 1) := by decide +kernel
theorem dX4_firstFits_294 : decode cX4_firstFits 294 = .ok (.iload 4, 2) := by decide +kernel
theorem dX4_firstFits_296 : decode cX4_firstFits 296 = .ok (.iconst 1, 1) := by decide +kernel
theorem dX4_firstFits_297 : decode cX4_firstFits 297 = .ok (.if_icmp .ne 7, 3) := by decide +kernel
theorem dX4_firstFits_300 : decode cX4_firstFits 300 = .ok (.iconst 1, 1) := by decide +kernel
theorem dX4_firstFits_301 : decode cX4_firstFits 301 = .ok (.goto 4, 3) := by decide +kernel
theorem dX4_firstFits_304 : decode cX4_firstFits 304 = .ok (.iconst 0, 1) := by decide +kernel
theorem dX4_firstFits_305 : decode cX4_firstFits 305 = .ok (.ireturn, 1) := by decide +kernel
theorem dX4_firstFits_306 : decode cX4_firstFits 306 = .ok (.aload_n 0, 1) := by decide +kernel
theorem dX4_firstFits_307 : decode cX4_firstFits 307 = .ok (.getfield 15, 3) := by decide +kernel
theorem dX4_firstFits_310 : decode cX4_firstFits 310 = .ok (.aload_n 0, 1) := by decide +kernel
theorem dX4_firstFits_311 : decode cX4_firstFits 311 = .ok (.getfield 15, 3) := by decide +kernel
theorem dX4_firstFits_314 : decode cX4_firstFits 314 = .ok (.iload 5, 2) := by decide +kernel
theorem dX4_firstFits_316 : decode cX4_firstFits 316 = .ok (.invokevirtual 78, 3) := by decide +kernel
theorem dX4_firstFits_319 : decode cX4_firstFits 319 = .ok (.invokevirtual 78, 3) := by decide +kernel
theorem dX4_firstFits_322 : decode cX4_firstFits 322 = .ok (.iload_n 2, 1) := by decide +kernel
theorem dX4_firstFits_323 : decode cX4_firstFits 323 = .ok (.if_icmp .ne 7, 3) := by decide +kernel
theorem dX4_firstFits_326 : decode cX4_firstFits 326 = .ok (.iconst 1, 1) := by decide +kernel
theorem dX4_firstFits_327 : decode cX4_firstFits 327 = .ok (.goto 4, 3) := by decide +kernel
theorem dX4_firstFits_330 : decode cX4_firstFits 330 = .ok (.iconst 0, 1) := by decide +kernel
theorem dX4_firstFits_331 : decode cX4_firstFits 331 = .ok (.ireturn, 1) := by decide +kernel
theorem dX4_firstFits_332 : decode cX4_firstFits 332 = .ok (.iconst 1, 1) := by decide +kernel
theorem dX4_firstFits_333 : decode cX4_firstFits 333 = .ok (.ireturn, 1) := by decide +kernel
theorem dX4_secondFits_0 : decode cX4_secondFits 0 = .ok (.iload_n 1, 1) := by decide +kernel
theorem dX4_secondFits_1 : decode cX4_secondFits 1 = .ok (.tableswitch 193 1 10 #[55, 193, 193, 193, 193, 81, 193, 127, 193, 160], 55) := by decide +kernel
theorem dX4_secondFits_56 : decode cX4_secondFits 56 = .ok (.aload_n 0, 1) := by decide +kernel
theorem dX4_secondFits_57 : decode cX4_secondFits 57 = .ok (.getfield 15, 3) := by decide +kernel
theorem dX4_secondFits_60 : decode cX4_secondFits 60 = .ok (.iload_n 2, 1) := by decide +kernel
theorem dX4_secondFits_61 : decode cX4_secondFits 61 = .ok (.invokevirtual 81, 3) := by decide +kernel
theorem dX4_secondFits_64 : decode cX4_secondFits 64 = .ok (.aload_n 0, 1) := by decide +kernel
theorem dX4_secondFits_65 : decode cX4_secondFits 65 = .ok (.getfield 23, 3) := by decide +kernel
theorem dX4_secondFits_68 : decode cX4_secondFits 68 = .ok (.iload 4, 2) := by decide +kernel
theorem dX4_secondFits_70 : decode cX4_secondFits 70 = .ok (.invokevirtual 66, 3) := by decide +kernel
theorem dX4_secondFits_73 : decode cX4_secondFits 73 = .ok (.if_icmp .ne 7, 3) := by decide +kernel
theorem dX4_secondFits_76 : decode cX4_secondFits 76 = .ok (.iconst 1, 1) := by decide +kernel
theorem dX4_secondFits_77 : decode cX4_secondFits 77 = .ok (.goto 4, 3) := by decide +kernel
theorem dX4_secondFits_80 : decode cX4_secondFits 80 = .ok (.iconst 0, 1) := by decide +kernel
theorem dX4_secondFits_81 : decode cX4_secondFits 81 = .ok (.ireturn, 1) := by decide +kernel
theorem dX4_secondFits_82 : decode cX4_secondFits 82 = .ok (.aload_n 0, 1) := by decide +kernel
theorem dX4_secondFits_83 : decode cX4_secondFits 83 = .ok (.getfield 23, 3) := by decide +kernel
theorem dX4_secondFits_86 : decode cX4_secondFits 86 = .ok (.iload 4, 2) := by decide +kernel
theorem dX4_secondFits_88 : decode cX4_secondFits 88 = .ok (.invokevirtual 84, 3) := by decide +kernel
theorem dX4_secondFits_91 : decode cX4_secondFits 91 = .ok (.aload_n 0, 1) := by decide +kernel
theorem dX4_secondFits_92 : decode cX4_secondFits 92 = .ok (.getfield 15, 3) := by decide +kernel
theorem dX4_secondFits_95 : decode cX4_secondFits 95 = .ok (.aload_n 0, 1) := by decide +kernel
theorem dX4_secondFits_96 : decode cX4_secondFits 96 = .ok (.getfield 23, 3) := by decide +kernel
theorem dX4_secondFits_99 : decode cX4_secondFits 99 = .ok (.iload_n 3, 1) := by decide +kernel
theorem dX4_secondFits_100 : decode cX4_secondFits 100 = .ok (.invokevirtual 66, 3) := by decide +kernel
theorem dX4_secondFits_103 : decode cX4_secondFits 103 = .ok (.invokevirtual 78, 3) := by decide +kernel
theorem dX4_secondFits_106 : decode cX4_secondFits 106 = .ok (.if_icmp .ne 20, 3) := by decide +kernel
theorem dX4_secondFits_109 : decode cX4_secondFits 109 = .ok (.aload_n 0, 1) := by decide +kernel
theorem dX4_secondFits_110 : decode cX4_secondFits 110 = .ok (.getfield 23, 3) := by decide +kernel
theorem dX4_secondFits_113 : decode cX4_secondFits 113 = .ok (.iload 4, 2) := by decide +kernel
theorem dX4_secondFits_115 : decode cX4_secondFits 115 = .ok (.invokevirtual 75, 3) := by decide +kernel
theorem dX4_secondFits_118 : decode cX4_secondFits 118 = .ok (.iload_n 2, 1) := by decide +kernel
theorem dX4_secondFits_119 : decode cX4_secondFits 119 = .ok (.if_icmp .ne 7, 3) := by decide +kernel
theorem dX4_secondFits_122 : decode cX4_secondFits 122 = .ok (.iconst 1, 1) := by decide +kernel
theorem dX4_secondFits_123 : decode cX4_secondFits 123 = .ok (.goto 4, 3) := by decide +kernel
theorem dX4_secondFits_126 : decode cX4_secondFits 126 = .ok (.iconst 0, 1) := by decide +kernel
theorem dX4_secondFits_127 : decode cX4_secondFits 127 = .ok (.ireturn, 1) := by decide +kernel
theorem dX4_secondFits_128 : decode cX4_secondFits 128 = .ok (.aload_n 0, 1) := by decide +kernel
theorem dX4_secondFits_129 : decode cX4_secondFits 129 = .ok (.getfield 23, 3) := by decide +kernel
theorem dX4_secondFits_132 : decode cX4_secondFits 132 = .ok (.iload 4, 2) := by decide +kernel
theorem dX4_secondFits_134 : decode cX4_secondFits 134 = .ok (.invokevirtual 66, 3) := by decide +kernel
theorem dX4_secondFits_137 : decode cX4_secondFits 137 = .ok (.aload_n 0, 1) := by decide +kernel
theorem dX4_secondFits_138 : decode cX4_secondFits 138 = .ok (.getfield 15, 3) := by decide +kernel
theorem dX4_secondFits_141 : decode cX4_secondFits 141 = .ok (.aload_n 0, 1) := by decide +kernel
theorem dX4_secondFits_142 : decode cX4_secondFits 142 = .ok (.getfield 23, 3) := by decide +kernel
theorem dX4_secondFits_145 : decode cX4_secondFits 145 = .ok (.iload_n 3, 1) := by decide +kernel
theorem dX4_secondFits_146 : decode cX4_secondFits 146 = .ok (.invokevirtual 66, 3) := by decide +kernel
theorem dX4_secondFits_149 : decode cX4_secondFits 149 = .ok (.invokevirtual 78, 3) := by decide +kernel
theorem dX4_secondFits_152 : decode cX4_secondFits 152 = .ok (.if_icmp .ne 7, 3) := by decide +kernel
theorem dX4_secondFits_155 : decode cX4_secondFits 155 = .ok (.iconst 1, 1) := by decide +kernel
theorem dX4_secondFits_156 : decode cX4_secondFits 156 = .ok (.goto 4, 3) := by decide +kernel
theorem dX4_secondFits_159 : decode cX4_secondFits 159 = .ok (.iconst 0, 1) := by decide +kernel
theorem dX4_secondFits_160 : decode cX4_secondFits 160 = .ok (.ireturn, 1) := by decide +kernel
theorem dX4_secondFits_161 : decode cX4_secondFits 161 = .ok (.aload_n 0, 1) := by decide +kernel
theorem dX4_secondFits_162 : decode cX4_secondFits 162 = .ok (.getfield 15, 3) := by decide +kernel
theorem dX4_secondFits_165 : decode cX4_secondFits 165 = .ok (.aload_n 0, 1) := by decide +kernel
theorem dX4_secondFits_166 : decode cX4_secondFits 166 = .ok (.getfield 23, 3) := by decide +kernel
theorem dX4_secondFits_169 : decode cX4_secondFits 169 = .ok (.iload 4, 2) := by decide +kernel
theorem dX4_secondFits_171 : decode cX4_secondFits 171 = .ok (.invokevirtual 66, 3) := by decide +kernel
theorem dX4_secondFits_174 : decode cX4_secondFits 174 = .ok (.invokevirtual 78, 3) := by decide +kernel
theorem dX4_secondFits_177 : decode cX4_secondFits 177 = .ok (.aload_n 0, 1) := by decide +kernel
theorem dX4_secondFits_178 : decode cX4_secondFits 178 = .ok (.getfield 23, 3) := by decide +kernel
theorem dX4_secondFits_181 : decode cX4_secondFits 181 = .ok (.iload_n 3, 1) := by decide +kernel
theorem dX4_secondFits_182 : decode cX4_secondFits 182 = .ok (.invokevirtual 66, 3) := by decide +kernel
theorem dX4_secondFits_185 : decode cX4_secondFits 185 = .ok (.if_icmp .ne 7, 3) := by decide +kernel
theorem dX4_secondFits_188 : decode cX4_secondFits 188 = .ok (.iconst 1, 1) := by decide +kernel
theorem dX4_secondFits_189 : decode cX4_secondFits 189 = .ok (.goto 4, 3) := by decide +kernel
theorem dX4_secondFits_192 : decode cX4_secondFits 192 = .ok (.iconst 0, 1) := by decide +kernel
theorem dX4_secondFits_193 : decode cX4_secondFits 193 = .ok (.ireturn, 1) := by decide +kernel
theorem dX4_secondFits_194 : decode cX4_secondFits 194 = .ok (.iconst 1, 1) := by decide +kernel
theorem dX4_secondFits_195 : decode cX4_secondFits 195 = .ok (.ireturn, 1) := by decide +kernel
theorem dX4_thirdFits_0 : decode cX4_thirdFits 0 = .ok (.iload_n 1, 1) := by decide +kernel
theorem dX4_thirdFits_1 : decode cX4_thirdFits 1 = .ok (.bipush 6, 2) := by decide +kernel
theorem dX4_thirdFits_3 : decode cX4_thirdFits 3 = .ok (.if_icmp .ne 43, 3) := by decide +kernel
theorem dX4_thirdFits_6 : decode cX4_thirdFits 6 = .ok (.aload_n 0, 1) := by decide +kernel
theorem dX4_thirdFits_7 : decode cX4_thirdFits 7 = .ok (.getfield 23, 3) := by decide +kernel
theorem dX4_thirdFits_10 : decode cX4_thirdFits 10 = .ok (.iload 4, 2) := by decide +kernel
theorem dX4_thirdFits_12 : decode cX4_thirdFits 12 = .ok (.invokevirtual 84, 3) := by decide +kernel
theorem dX4_thirdFits_15 : decode cX4_thirdFits 15 = .ok (.aload_n 0, 1) := by decide +kernel
theorem dX4_thirdFits_16 : decode cX4_thirdFits 16 = .ok (.getfield 15, 3) := by decide +kernel
theorem dX4_thirdFits_19 : decode cX4_thirdFits 19 = .ok (.aload_n 0, 1) := by decide +kernel
theorem dX4_thirdFits_20 : decode cX4_thirdFits 20 = .ok (.getfield 23, 3) := by decide +kernel
theorem dX4_thirdFits_23 : decode cX4_thirdFits 23 = .ok (.iload_n 3, 1) := by decide +kernel
theorem dX4_thirdFits_24 : decode cX4_thirdFits 24 = .ok (.invokevirtual 66, 3) := by decide +kernel
theorem dX4_thirdFits_27 : decode cX4_thirdFits 27 = .ok (.invokevirtual 81, 3) := by decide +kernel
theorem dX4_thirdFits_30 : decode cX4_thirdFits 30 = .ok (.if_icmp .ne 20, 3) := by decide +kernel
theorem dX4_thirdFits_33 : decode cX4_thirdFits 33 = .ok (.aload_n 0, 1) := by decide +kernel
theorem dX4_thirdFits_34 : decode cX4_thirdFits 34 = .ok (.getfield 23, 3) := by decide +kernel
theorem dX4_thirdFits_37 : decode cX4_thirdFits 37 = .ok (.iload 4, 2) := by decide +kernel
theorem dX4_thirdFits_39 : decode cX4_thirdFits 39 = .ok (.invokevirtual 75, 3) := by decide +kernel
theorem dX4_thirdFits_42 : decode cX4_thirdFits 42 = .ok (.iload_n 2, 1) := by decide +kernel
theorem dX4_thirdFits_43 : decode cX4_thirdFits 43 = .ok (.if_icmp .ne 7, 3) := by decide +kernel
theorem dX4_thirdFits_46 : decode cX4_thirdFits 46 = .ok (.iconst 1, 1) := by decide +kernel
theorem dX4_thirdFits_47 : decode cX4_thirdFits 47 = .ok (.goto 4, 3) := by decide +kernel
theorem dX4_thirdFits_50 : decode cX4_thirdFits 50 = .ok (.iconst 0, 1) := by decide +kernel
theorem dX4_thirdFits_51 : decode cX4_thirdFits 51 = .ok (.ireturn, 1) := by decide +kernel
theorem dX4_theoremFits_0 : decode cX4_theoremFits 0 = .ok (.aload_n 0, 1) := by decide +kernel
theorem dX4_theoremFits_1 : decode cX4_theoremFits 1 = .ok (.getfield 19, 3) := by decide +kernel
theorem dX4_theoremFits_4 : decode cX4_theoremFits 4 = .ok (.iload_n 2, 1) := by decide +kernel
theorem dX4_theoremFits_5 : decode cX4_theoremFits 5 = .ok (.invokevirtual 87, 3) := by decide +kernel
theorem dX4_theoremFits_8 : decode cX4_theoremFits 8 = .ok (.istore 5, 2) := by decide +kernel
theorem dX4_theoremFits_10 : decode cX4_theoremFits 10 = .ok (.iload 5, 2) := by decide +kernel
theorem dX4_theoremFits_12 : decode cX4_theoremFits 12 = .ok (.ifCond .le 14, 3) := by decide +kernel
theorem dX4_theoremFits_15 : decode cX4_theoremFits 15 = .ok (.aload_n 0, 1) := by decide +kernel
theorem dX4_theoremFits_16 : decode cX4_theoremFits 16 = .ok (.getfield 23, 3) := by decide +kernel
theorem dX4_theoremFits_19 : decode cX4_theoremFits 19 = .ok (.iload_n 3, 1) := by decide +kernel
theorem dX4_theoremFits_20 : decode cX4_theoremFits 20 = .ok (.invokevirtual 66, 3) := by decide +kernel
theorem dX4_theoremFits_23 : decode cX4_theoremFits 23 = .ok (.goto 4, 3) := by decide +kernel
theorem dX4_theoremFits_26 : decode cX4_theoremFits 26 = .ok (.iconst (-1), 1) := by decide +kernel
theorem dX4_theoremFits_27 : decode cX4_theoremFits 27 = .ok (.istore 6, 2) := by decide +kernel
theorem dX4_theoremFits_29 : decode cX4_theoremFits 29 = .ok (.iload 5, 2) := by decide +kernel
theorem dX4_theoremFits_31 : decode cX4_theoremFits 31 = .ok (.iconst 1, 1) := by decide +kernel
theorem dX4_theoremFits_32 : decode cX4_theoremFits 32 = .ok (.if_icmp .le 15, 3) := by decide +kernel
theorem dX4_theoremFits_35 : decode cX4_theoremFits 35 = .ok (.aload_n 0, 1) := by decide +kernel
theorem dX4_theoremFits_36 : decode cX4_theoremFits 36 = .ok (.getfield 23, 3) := by decide +kernel
theorem dX4_theoremFits_39 : decode cX4_theoremFits 39 = .ok (.iload 4, 2) := by decide +kernel
theorem dX4_theoremFits_41 : decode cX4_theoremFits 41 = .ok (.invokevirtual 66, 3) := by decide +kernel
theorem dX4_theoremFits_44 : decode cX4_theoremFits 44 = .ok (.goto 4, 3) := by decide +kernel
theorem dX4_theoremFits_47 : decode cX4_theoremFits 47 = .ok (.iconst (-1), 1) := by decide +kernel
theorem dX4_theoremFits_48 : decode cX4_theoremFits 48 = .ok (.istore 7, 2) := by decide +kernel
theorem dX4_theoremFits_50 : decode cX4_theoremFits 50 = .ok (.aload_n 0, 1) := by decide +kernel
theorem dX4_theoremFits_51 : decode cX4_theoremFits 51 = .ok (.getfield 19, 3) := by decide +kernel
theorem dX4_theoremFits_54 : decode cX4_theoremFits 54 = .ok (.iload_n 2, 1) := by decide +kernel
theorem dX4_theoremFits_55 : decode cX4_theoremFits 55 = .ok (.iload_n 1, 1) := by decide +kernel
theorem dX4_theoremFits_56 : decode cX4_theoremFits 56 = .ok (.iload 6, 2) := by decide +kernel
theorem dX4_theoremFits_58 : decode cX4_theoremFits 58 = .ok (.iload 7, 2) := by decide +kernel
theorem dX4_theoremFits_60 : decode cX4_theoremFits 60 = .ok (.invokevirtual 90, 3) := by decide +kernel
theorem dX4_theoremFits_63 : decode cX4_theoremFits 63 = .ok (.ireturn, 1) := by decide +kernel
theorem dX4_search_0 : decode cX4_search 0 = .ok (.iconst 0, 1) := by decide +kernel
theorem dX4_search_1 : decode cX4_search 1 = .ok (.istore_n 3, 1) := by decide +kernel
theorem dX4_search_2 : decode cX4_search 2 = .ok (.iload_n 3, 1) := by decide +kernel
theorem dX4_search_3 : decode cX4_search 3 = .ok (.aload_n 0, 1) := by decide +kernel
theorem dX4_search_4 : decode cX4_search 4 = .ok (.iload_n 1, 1) := by decide +kernel
theorem dX4_search_5 : decode cX4_search 5 = .ok (.iconst 0, 1) := by decide +kernel
theorem dX4_search_6 : decode cX4_search 6 = .ok (.invokevirtual 93, 3) := by decide +kernel
theorem dX4_search_9 : decode cX4_search 9 = .ok (.if_icmp .ge 140, 3) := by decide +kernel
theorem dX4_search_12 : decode cX4_search 12 = .ok (.aload_n 0, 1) := by decide +kernel
theorem dX4_search_13 : decode cX4_search 13 = .ok (.aload_n 0, 1) := by decide +kernel
theorem dX4_search_14 : decode cX4_search 14 = .ok (.getfield 23, 3) := by decide +kernel
theorem dX4_search_17 : decode cX4_search 17 = .ok (.iload_n 1, 1) := by decide +kernel
theorem dX4_search_18 : decode cX4_search 18 = .ok (.iconst 0, 1) := by decide +kernel
theorem dX4_search_19 : decode cX4_search 19 = .ok (.iload_n 3, 1) := by decide +kernel
theorem dX4_search_20 : decode cX4_search 20 = .ok (.invokevirtual 27, 3) := by decide +kernel
theorem dX4_search_23 : decode cX4_search 23 = .ok (.iload_n 3, 1) := by decide +kernel
theorem dX4_search_24 : decode cX4_search 24 = .ok (.invokevirtual 33, 3) := by decide +kernel
theorem dX4_search_27 : decode cX4_search 27 = .ok (.ifCond .eq 116, 3) := by decide +kernel
theorem dX4_search_30 : decode cX4_search 30 = .ok (.aload_n 0, 1) := by decide +kernel
theorem dX4_search_31 : decode cX4_search 31 = .ok (.iload_n 1, 1) := by decide +kernel
theorem dX4_search_32 : decode cX4_search 32 = .ok (.iload_n 2, 1) := by decide +kernel
theorem dX4_search_33 : decode cX4_search 33 = .ok (.iload_n 3, 1) := by decide +kernel
theorem dX4_search_34 : decode cX4_search 34 = .ok (.invokevirtual 45, 3) := by decide +kernel
theorem dX4_search_37 : decode cX4_search 37 = .ok (.ifCond .ne 6, 3) := by decide +kernel
theorem dX4_search_40 : decode cX4_search 40 = .ok (.goto 103, 3) := by decide +kernel
theorem dX4_search_43 : decode cX4_search 43 = .ok (.iconst 0, 1) := by decide +kernel
theorem dX4_search_44 : decode cX4_search 44 = .ok (.istore 4, 2) := by decide +kernel
theorem dX4_search_46 : decode cX4_search 46 = .ok (.iload 4, 2) := by decide +kernel
theorem dX4_search_48 : decode cX4_search 48 = .ok (.aload_n 0, 1) := by decide +kernel
theorem dX4_search_49 : decode cX4_search 49 = .ok (.iload_n 1, 1) := by decide +kernel
theorem dX4_search_50 : decode cX4_search 50 = .ok (.iconst 1, 1) := by decide +kernel
theorem dX4_search_51 : decode cX4_search 51 = .ok (.invokevirtual 93, 3) := by decide +kernel
theorem dX4_search_54 : decode cX4_search 54 = .ok (.if_icmp .ge 89, 3) := by decide +kernel
theorem dX4_search_57 : decode cX4_search 57 = .ok (.aload_n 0, 1) := by decide +kernel
theorem dX4_search_58 : decode cX4_search 58 = .ok (.aload_n 0, 1) := by decide +kernel
theorem dX4_search_59 : decode cX4_search 59 = .ok (.getfield 23, 3) := by decide +kernel
theorem dX4_search_62 : decode cX4_search 62 = .ok (.iload_n 1, 1) := by decide +kernel
theorem dX4_search_63 : decode cX4_search 63 = .ok (.iconst 1, 1) := by decide +kernel
theorem dX4_search_64 : decode cX4_search 64 = .ok (.iload_n 3, 1) := by decide +kernel
theorem dX4_search_65 : decode cX4_search 65 = .ok (.invokevirtual 27, 3) := by decide +kernel
theorem dX4_search_68 : decode cX4_search 68 = .ok (.iload 4, 2) := by decide +kernel
theorem dX4_search_70 : decode cX4_search 70 = .ok (.invokevirtual 33, 3) := by decide +kernel
theorem dX4_search_73 : decode cX4_search 73 = .ok (.ifCond .eq 64, 3) := by decide +kernel
theorem dX4_search_76 : decode cX4_search 76 = .ok (.aload_n 0, 1) := by decide +kernel
theorem dX4_search_77 : decode cX4_search 77 = .ok (.iload_n 1, 1) := by decide +kernel
theorem dX4_search_78 : decode cX4_search 78 = .ok (.iload_n 2, 1) := by decide +kernel
theorem dX4_search_79 : decode cX4_search 79 = .ok (.iload_n 3, 1) := by decide +kernel
theorem dX4_search_80 : decode cX4_search 80 = .ok (.iload 4, 2) := by decide +kernel
theorem dX4_search_82 : decode cX4_search 82 = .ok (.invokevirtual 48, 3) := by decide +kernel
theorem dX4_search_85 : decode cX4_search 85 = .ok (.ifCond .ne 6, 3) := by decide +kernel
theorem dX4_search_88 : decode cX4_search 88 = .ok (.goto 49, 3) := by decide +kernel
theorem dX4_search_91 : decode cX4_search 91 = .ok (.iconst 0, 1) := by decide +kernel
theorem dX4_search_92 : decode cX4_search 92 = .ok (.istore 5, 2) := by decide +kernel
theorem dX4_search_94 : decode cX4_search 94 = .ok (.iload 5, 2) := by decide +kernel
theorem dX4_search_96 : decode cX4_search 96 = .ok (.aload_n 0, 1) := by decide +kernel
theorem dX4_search_97 : decode cX4_search 97 = .ok (.iload_n 1, 1) := by decide +kernel
theorem dX4_search_98 : decode cX4_search 98 = .ok (.iconst 2, 1) := by decide +kernel
theorem dX4_search_99 : decode cX4_search 99 = .ok (.invokevirtual 93, 3) := by decide +kernel
theorem dX4_search_102 : decode cX4_search 102 = .ok (.if_icmp .ge 35, 3) := by decide +kernel
theorem dX4_search_105 : decode cX4_search 105 = .ok (.aload_n 0, 1) := by decide +kernel
theorem dX4_search_106 : decode cX4_search 106 = .ok (.iload_n 1, 1) := by decide +kernel
theorem dX4_search_107 : decode cX4_search 107 = .ok (.iload_n 2, 1) := by decide +kernel
theorem dX4_search_108 : decode cX4_search 108 = .ok (.iload_n 3, 1) := by decide +kernel
theorem dX4_search_109 : decode cX4_search 109 = .ok (.iload 4, 2) := by decide +kernel
theorem dX4_search_111 : decode cX4_search 111 = .ok (.iload 5, 2) := by decide +kernel
theorem dX4_search_113 : decode cX4_search 113 = .ok (.invokevirtual 97, 3) := by decide +kernel
theorem dX4_search_116 : decode cX4_search 116 = .ok (.ifCond .ne 15, 3) := by decide +kernel
theorem dX4_search_119 : decode cX4_search 119 = .ok (.aload_n 0, 1) := by decide +kernel
theorem dX4_search_120 : decode cX4_search 120 = .ok (.iload_n 1, 1) := by decide +kernel
theorem dX4_search_121 : decode cX4_search 121 = .ok (.iload_n 3, 1) := by decide +kernel
theorem dX4_search_122 : decode cX4_search 122 = .ok (.iload 4, 2) := by decide +kernel
theorem dX4_search_124 : decode cX4_search 124 = .ok (.iload 5, 2) := by decide +kernel
theorem dX4_search_126 : decode cX4_search 126 = .ok (.invokevirtual 101, 3) := by decide +kernel
theorem dX4_search_129 : decode cX4_search 129 = .ok (.iconst 1, 1) := by decide +kernel
theorem dX4_search_130 : decode cX4_search 130 = .ok (.ireturn, 1) := by decide +kernel
theorem dX4_search_131 : decode cX4_search 131 = .ok (.iinc 5 1, 3) := by decide +kernel
theorem dX4_search_134 : decode cX4_search 134 = .ok (.goto (-40), 3) := by decide +kernel
theorem dX4_search_137 : decode cX4_search 137 = .ok (.iinc 4 1, 3) := by decide +kernel
theorem dX4_search_140 : decode cX4_search 140 = .ok (.goto (-94), 3) := by decide +kernel
theorem dX4_search_143 : decode cX4_search 143 = .ok (.iinc 3 1, 3) := by decide +kernel
theorem dX4_search_146 : decode cX4_search 146 = .ok (.goto (-144), 3) := by decide +kernel
theorem dX4_search_149 : decode cX4_search 149 = .ok (.iconst 0, 1) := by decide +kernel
theorem dX4_search_150 : decode cX4_search 150 = .ok (.ireturn, 1) := by decide +kernel
theorem dX4_choices_0 : decode cX4_choices 0 = .ok (.aload_n 0, 1) := by decide +kernel
theorem dX4_choices_1 : decode cX4_choices 1 = .ok (.getfield 23, 3) := by decide +kernel
theorem dX4_choices_4 : decode cX4_choices 4 = .ok (.iload_n 1, 1) := by decide +kernel
theorem dX4_choices_5 : decode cX4_choices 5 = .ok (.iload_n 2, 1) := by decide +kernel
theorem dX4_choices_6 : decode cX4_choices 6 = .ok (.iconst 0, 1) := by decide +kernel
theorem dX4_choices_7 : decode cX4_choices 7 = .ok (.invokevirtual 27, 3) := by decide +kernel
theorem dX4_choices_10 : decode cX4_choices 10 = .ok (.lookupswitch 42 #[(1, 26), (2, 34)], 26) := by decide +kernel
theorem dX4_choices_36 : decode cX4_choices 36 = .ok (.aload_n 0, 1) := by decide +kernel
theorem dX4_choices_37 : decode cX4_choices 37 = .ok (.getfield 23, 3) := by decide +kernel
theorem dX4_choices_40 : decode cX4_choices 40 = .ok (.invokevirtual 105, 3) := by decide +kernel
theorem dX4_choices_43 : decode cX4_choices 43 = .ok (.ireturn, 1) := by decide +kernel
theorem dX4_choices_44 : decode cX4_choices 44 = .ok (.aload_n 0, 1) := by decide +kernel
theorem dX4_choices_45 : decode cX4_choices 45 = .ok (.getfield 23, 3) := by decide +kernel
theorem dX4_choices_48 : decode cX4_choices 48 = .ok (.invokevirtual 109, 3) := by decide +kernel
theorem dX4_choices_51 : decode cX4_choices 51 = .ok (.ireturn, 1) := by decide +kernel
theorem dX4_choices_52 : decode cX4_choices 52 = .ok (.iconst 1, 1) := by decide +kernel
theorem dX4_choices_53 : decode cX4_choices 53 = .ok (.ireturn, 1) := by decide +kernel
theorem dX4_keep_0 : decode cX4_keep 0 = .ok (.aload_n 0, 1) := by decide +kernel
theorem dX4_keep_1 : decode cX4_keep 1 = .ok (.getfield 9, 3) := by decide +kernel
theorem dX4_keep_4 : decode cX4_keep 4 = .ok (.iconst 0, 1) := by decide +kernel
theorem dX4_keep_5 : decode cX4_keep 5 = .ok (.iload_n 1, 1) := by decide +kernel
theorem dX4_keep_6 : decode cX4_keep 6 = .ok (.iastore, 1) := by decide +kernel
theorem dX4_keep_7 : decode cX4_keep 7 = .ok (.aload_n 0, 1) := by decide +kernel
theorem dX4_keep_8 : decode cX4_keep 8 = .ok (.getfield 9, 3) := by decide +kernel
theorem dX4_keep_11 : decode cX4_keep 11 = .ok (.iconst 1, 1) := by decide +kernel
theorem dX4_keep_12 : decode cX4_keep 12 = .ok (.iload_n 2, 1) := by decide +kernel
theorem dX4_keep_13 : decode cX4_keep 13 = .ok (.iastore, 1) := by decide +kernel
theorem dX4_keep_14 : decode cX4_keep 14 = .ok (.aload_n 0, 1) := by decide +kernel
theorem dX4_keep_15 : decode cX4_keep 15 = .ok (.getfield 9, 3) := by decide +kernel
theorem dX4_keep_18 : decode cX4_keep 18 = .ok (.iconst 2, 1) := by decide +kernel
theorem dX4_keep_19 : decode cX4_keep 19 = .ok (.iload_n 3, 1) := by decide +kernel
theorem dX4_keep_20 : decode cX4_keep 20 = .ok (.iastore, 1) := by decide +kernel
theorem dX4_keep_21 : decode cX4_keep 21 = .ok (.aload_n 0, 1) := by decide +kernel
theorem dX4_keep_22 : decode cX4_keep 22 = .ok (.getfield 9, 3) := by decide +kernel
theorem dX4_keep_25 : decode cX4_keep 25 = .ok (.iconst 3, 1) := by decide +kernel
theorem dX4_keep_26 : decode cX4_keep 26 = .ok (.iload 4, 2) := by decide +kernel
theorem dX4_keep_28 : decode cX4_keep 28 = .ok (.iastore, 1) := by decide +kernel
theorem dX4_keep_29 : decode cX4_keep 29 = .ok (.return_, 1) := by decide +kernel
theorem dX4_found_0 : decode cX4_found 0 = .ok (.iload_n 1, 1) := by decide +kernel
theorem dX4_found_1 : decode cX4_found 1 = .ok (.ifCond .lt 21, 3) := by decide +kernel
theorem dX4_found_4 : decode cX4_found 4 = .ok (.iload_n 1, 1) := by decide +kernel
theorem dX4_found_5 : decode cX4_found 5 = .ok (.aload_n 0, 1) := by decide +kernel
theorem dX4_found_6 : decode cX4_found 6 = .ok (.getfield 9, 3) := by decide +kernel
theorem dX4_found_9 : decode cX4_found 9 = .ok (.arraylength, 1) := by decide +kernel
theorem dX4_found_10 : decode cX4_found 10 = .ok (.if_icmp .ge 12, 3) := by decide +kernel
theorem dX4_found_13 : decode cX4_found 13 = .ok (.aload_n 0, 1) := by decide +kernel
theorem dX4_found_14 : decode cX4_found 14 = .ok (.getfield 9, 3) := by decide +kernel
theorem dX4_found_17 : decode cX4_found 17 = .ok (.iload_n 1, 1) := by decide +kernel
theorem dX4_found_18 : decode cX4_found 18 = .ok (.iaload, 1) := by decide +kernel
theorem dX4_found_19 : decode cX4_found 19 = .ok (.goto 4, 3) := by decide +kernel
theorem dX4_found_22 : decode cX4_found 22 = .ok (.iconst (-1), 1) := by decide +kernel
theorem dX4_found_23 : decode cX4_found 23 = .ok (.ireturn, 1) := by decide +kernel
theorem dX5_init_0 : decode cX5_init 0 = .ok (.aload_n 0, 1) := by decide +kernel
theorem dX5_init_1 : decode cX5_init 1 = .ok (.invokespecial 3, 3) := by decide +kernel
theorem dX5_init_4 : decode cX5_init 4 = .ok (.aload_n 0, 1) := by decide +kernel
theorem dX5_init_5 : decode cX5_init 5 = .ok (.sipush 400, 3) := by decide +kernel
theorem dX5_init_8 : decode cX5_init 8 = .ok (.newarray .byte, 2) := by decide +kernel
theorem dX5_init_10 : decode cX5_init 10 = .ok (.putfield 9, 3) := by decide +kernel
theorem dX5_init_13 : decode cX5_init 13 = .ok (.aload_n 0, 1) := by decide +kernel
theorem dX5_init_14 : decode cX5_init 14 = .ok (.iconst (-1), 1) := by decide +kernel
theorem dX5_init_15 : decode cX5_init 15 = .ok (.putfield 15, 3) := by decide +kernel
theorem dX5_init_18 : decode cX5_init 18 = .ok (.aload_n 0, 1) := by decide +kernel
theorem dX5_init_19 : decode cX5_init 19 = .ok (.aload_n 1, 1) := by decide +kernel
theorem dX5_init_20 : decode cX5_init 20 = .ok (.putfield 19, 3) := by decide +kernel
theorem dX5_init_23 : decode cX5_init 23 = .ok (.return_, 1) := by decide +kernel
theorem dX5_size_0 : decode cX5_size 0 = .ok (.aload_n 0, 1) := by decide +kernel
theorem dX5_size_1 : decode cX5_size 1 = .ok (.getfield 23, 3) := by decide +kernel
theorem dX5_size_4 : decode cX5_size 4 = .ok (.ireturn, 1) := by decide +kernel
theorem dX6_init_0 : decode cX6_init 0 = .ok (.aload_n 0, 1) := by decide +kernel
theorem dX6_init_1 : decode cX6_init 1 = .ok (.invokespecial 3, 3) := by decide +kernel
theorem dX6_init_4 : decode cX6_init 4 = .ok (.aload_n 0, 1) := by decide +kernel
theorem dX6_init_5 : decode cX6_init 5 = .ok (.bipush 16, 2) := by decide +kernel
theorem dX6_init_7 : decode cX6_init 7 = .ok (.newarray .int, 2) := by decide +kernel
theorem dX6_init_9 : decode cX6_init 9 = .ok (.putfield 9, 3) := by decide +kernel
theorem dX6_init_12 : decode cX6_init 12 = .ok (.aload_n 0, 1) := by decide +kernel
theorem dX6_init_13 : decode cX6_init 13 = .ok (.bipush 16, 2) := by decide +kernel
theorem dX6_init_15 : decode cX6_init 15 = .ok (.newarray .int, 2) := by decide +kernel
theorem dX6_init_17 : decode cX6_init 17 = .ok (.putfield 15, 3) := by decide +kernel
theorem dX6_init_20 : decode cX6_init 20 = .ok (.aload_n 0, 1) := by decide +kernel
theorem dX6_init_21 : decode cX6_init 21 = .ok (.bipush 16, 2) := by decide +kernel
theorem dX6_init_23 : decode cX6_init 23 = .ok (.newarray .int, 2) := by decide +kernel
theorem dX6_init_25 : decode cX6_init 25 = .ok (.putfield 18, 3) := by decide +kernel
theorem dX6_init_28 : decode cX6_init 28 = .ok (.aload_n 0, 1) := by decide +kernel
theorem dX6_init_29 : decode cX6_init 29 = .ok (.bipush 16, 2) := by decide +kernel
theorem dX6_init_31 : decode cX6_init 31 = .ok (.newarray .int, 2) := by decide +kernel
theorem dX6_init_33 : decode cX6_init 33 = .ok (.putfield 21, 3) := by decide +kernel
theorem dX6_init_36 : decode cX6_init 36 = .ok (.aload_n 0, 1) := by decide +kernel
theorem dX6_init_37 : decode cX6_init 37 = .ok (.bipush 16, 2) := by decide +kernel
theorem dX6_init_39 : decode cX6_init 39 = .ok (.newarray .int, 2) := by decide +kernel
theorem dX6_init_41 : decode cX6_init 41 = .ok (.putfield 24, 3) := by decide +kernel
theorem dX6_init_44 : decode cX6_init 44 = .ok (.aload_n 0, 1) := by decide +kernel
theorem dX6_init_45 : decode cX6_init 45 = .ok (.bipush 16, 2) := by decide +kernel
theorem dX6_init_47 : decode cX6_init 47 = .ok (.newarray .int, 2) := by decide +kernel
theorem dX6_init_49 : decode cX6_init 49 = .ok (.putfield 27, 3) := by decide +kernel
theorem dX6_init_52 : decode cX6_init 52 = .ok (.aload_n 0, 1) := by decide +kernel
theorem dX6_init_53 : decode cX6_init 53 = .ok (.sipush 240, 3) := by decide +kernel
theorem dX6_init_56 : decode cX6_init 56 = .ok (.newarray .int, 2) := by decide +kernel
theorem dX6_init_58 : decode cX6_init 58 = .ok (.putfield 30, 3) := by decide +kernel
theorem dX6_init_61 : decode cX6_init 61 = .ok (.aload_n 0, 1) := by decide +kernel
theorem dX6_init_62 : decode cX6_init 62 = .ok (.aload_n 1, 1) := by decide +kernel
theorem dX6_init_63 : decode cX6_init 63 = .ok (.putfield 33, 3) := by decide +kernel
theorem dX6_init_66 : decode cX6_init 66 = .ok (.return_, 1) := by decide +kernel
theorem dX6_known_0 : decode cX6_known 0 = .ok (.aload_n 0, 1) := by decide +kernel
theorem dX6_known_1 : decode cX6_known 1 = .ok (.getfield 37, 3) := by decide +kernel
theorem dX6_known_4 : decode cX6_known 4 = .ok (.ireturn, 1) := by decide +kernel
theorem dX6_isKnown_0 : decode cX6_isKnown 0 = .ok (.iload_n 1, 1) := by decide +kernel
theorem dX6_isKnown_1 : decode cX6_isKnown 1 = .ok (.ifCond .lt 15, 3) := by decide +kernel
theorem dX6_isKnown_4 : decode cX6_isKnown 4 = .ok (.iload_n 1, 1) := by decide +kernel
theorem dX6_isKnown_5 : decode cX6_isKnown 5 = .ok (.aload_n 0, 1) := by decide +kernel
theorem dX6_isKnown_6 : decode cX6_isKnown 6 = .ok (.getfield 37, 3) := by decide +kernel
theorem dX6_isKnown_9 : decode cX6_isKnown 9 = .ok (.if_icmp .ge 7, 3) := by decide +kernel
theorem dX6_isKnown_12 : decode cX6_isKnown 12 = .ok (.iconst 1, 1) := by decide +kernel
theorem dX6_isKnown_13 : decode cX6_isKnown 13 = .ok (.goto 4, 3) := by decide +kernel
theorem dX6_isKnown_16 : decode cX6_isKnown 16 = .ok (.iconst 0, 1) := by decide +kernel
theorem dX6_isKnown_17 : decode cX6_isKnown 17 = .ok (.ireturn, 1) := by decide +kernel
theorem dX6_conclusion_0 : decode cX6_conclusion 0 = .ok (.iload_n 1, 1) := by decide +kernel
theorem dX6_conclusion_1 : decode cX6_conclusion 1 = .ok (.ifCond .lt 20, 3) := by decide +kernel
theorem dX6_conclusion_4 : decode cX6_conclusion 4 = .ok (.iload_n 1, 1) := by decide +kernel
theorem dX6_conclusion_5 : decode cX6_conclusion 5 = .ok (.aload_n 0, 1) := by decide +kernel
theorem dX6_conclusion_6 : decode cX6_conclusion 6 = .ok (.getfield 37, 3) := by decide +kernel
theorem dX6_conclusion_9 : decode cX6_conclusion 9 = .ok (.if_icmp .ge 12, 3) := by decide +kernel
theorem dX6_conclusion_12 : decode cX6_conclusion 12 = .ok (.aload_n 0, 1) := by decide +kernel
theorem dX6_conclusion_13 : decode cX6_conclusion 13 = .ok (.getfield 9, 3) := by decide +kernel
theorem dX6_conclusion_16 : decode cX6_conclusion 16 = .ok (.iload_n 1, 1) := by decide +kernel
theorem dX6_conclusion_17 : decode cX6_conclusion 17 = .ok (.iaload, 1) := by decide +kernel
theorem dX6_conclusion_18 : decode cX6_conclusion 18 = .ok (.goto 4, 3) := by decide +kernel
theorem dX6_conclusion_21 : decode cX6_conclusion 21 = .ok (.iconst (-1), 1) := by decide +kernel
theorem dX6_conclusion_22 : decode cX6_conclusion 22 = .ok (.ireturn, 1) := by decide +kernel
theorem dX6_premises_0 : decode cX6_premises 0 = .ok (.iload_n 1, 1) := by decide +kernel
theorem dX6_premises_1 : decode cX6_premises 1 = .ok (.ifCond .lt 43, 3) := by decide +kernel
theorem dX6_premises_4 : decode cX6_premises 4 = .ok (.iload_n 1, 1) := by decide +kernel
theorem dX6_premises_5 : decode cX6_premises 5 = .ok (.aload_n 0, 1) := by decide +kernel
theorem dX6_premises_6 : decode cX6_premises 6 = .ok (.getfield 37, 3) := by decide +kernel
theorem dX6_premises_9 : decode cX6_premises 9 = .ok (.if_icmp .ge 35, 3) := by decide +kernel
theorem dX6_premises_12 : decode cX6_premises 12 = .ok (.aload_n 0, 1) := by decide +kernel
theorem dX6_premises_13 : decode cX6_premises 13 = .ok (.getfield 15, 3) := by decide +kernel
theorem dX6_premises_16 : decode cX6_premises 16 = .ok (.iload_n 1, 1) := by decide +kernel
theorem dX6_premises_17 : decode cX6_premises 17 = .ok (.iaload, 1) := by decide +kernel
theorem dX6_premises_18 : decode cX6_premises 18 = .ok (.ifCond .lt 7, 3) := by decide +kernel
theorem dX6_premises_21 : decode cX6_premises 21 = .ok (.iconst 1, 1) := by decide +kernel
theorem dX6_premises_22 : decode cX6_premises 22 = .ok (.goto 4, 3) := by decide +kernel
theorem dX6_premises_25 : decode cX6_premises 25 = .ok (.iconst 0, 1) := by decide +kernel
theorem dX6_premises_26 : decode cX6_premises 26 = .ok (.aload_n 0, 1) := by decide +kernel
theorem dX6_premises_27 : decode cX6_premises 27 = .ok (.getfield 18, 3) := by decide +kernel
theorem dX6_premises_30 : decode cX6_premises 30 = .ok (.iload_n 1, 1) := by decide +kernel
theorem dX6_premises_31 : decode cX6_premises 31 = .ok (.iaload, 1) := by decide +kernel
theorem dX6_premises_32 : decode cX6_premises 32 = .ok (.ifCond .lt 7, 3) := by decide +kernel
theorem dX6_premises_35 : decode cX6_premises 35 = .ok (.iconst 1, 1) := by decide +kernel
theorem dX6_premises_36 : decode cX6_premises 36 = .ok (.goto 4, 3) := by decide +kernel
theorem dX6_premises_39 : decode cX6_premises 39 = .ok (.iconst 0, 1) := by decide +kernel
theorem dX6_premises_40 : decode cX6_premises 40 = .ok (.iadd, 1) := by decide +kernel
theorem dX6_premises_41 : decode cX6_premises 41 = .ok (.goto 4, 3) := by decide +kernel
theorem dX6_premises_44 : decode cX6_premises 44 = .ok (.iconst 0, 1) := by decide +kernel
theorem dX6_premises_45 : decode cX6_premises 45 = .ok (.ireturn, 1) := by decide +kernel
theorem dX6_firstPremise_0 : decode cX6_firstPremise 0 = .ok (.iload_n 1, 1) := by decide +kernel
theorem dX6_firstPremise_1 : decode cX6_firstPremise 1 = .ok (.ifCond .lt 20, 3) := by decide +kernel
theorem dX6_firstPremise_4 : decode cX6_firstPremise 4 = .ok (.iload_n 1, 1) := by decide +kernel
theorem dX6_firstPremise_5 : decode cX6_firstPremise 5 = .ok (.aload_n 0, 1) := by decide +kernel
theorem dX6_firstPremise_6 : decode cX6_firstPremise 6 = .ok (.getfield 37, 3) := by decide +kernel
theorem dX6_firstPremise_9 : decode cX6_firstPremise 9 = .ok (.if_icmp .ge 12, 3) := by decide +kernel
theorem dX6_firstPremise_12 : decode cX6_firstPremise 12 = .ok (.aload_n 0, 1) := by decide +kernel
theorem dX6_firstPremise_13 : decode cX6_firstPremise 13 = .ok (.getfield 15, 3) := by decide +kernel
theorem dX6_firstPremise_16 : decode cX6_firstPremise 16 = .ok (.iload_n 1, 1) := by decide +kernel
theorem dX6_firstPremise_17 : decode cX6_firstPremise 17 = .ok (.iaload, 1) := by decide +kernel
theorem dX6_firstPremise_18 : decode cX6_firstPremise 18 = .ok (.goto 4, 3) := by decide +kernel
theorem dX6_firstPremise_21 : decode cX6_firstPremise 21 = .ok (.iconst (-1), 1) := by decide +kernel
theorem dX6_firstPremise_22 : decode cX6_firstPremise 22 = .ok (.ireturn, 1) := by decide +kernel
theorem dX6_secondPremise_0 : decode cX6_secondPremise 0 = .ok (.iload_n 1, 1) := by decide +kernel
theorem dX6_secondPremise_1 : decode cX6_secondPremise 1 = .ok (.ifCond .lt 20, 3) := by decide +kernel
theorem dX6_secondPremise_4 : decode cX6_secondPremise 4 = .ok (.iload_n 1, 1) := by decide +kernel
theorem dX6_secondPremise_5 : decode cX6_secondPremise 5 = .ok (.aload_n 0, 1) := by decide +kernel
theorem dX6_secondPremise_6 : decode cX6_secondPremise 6 = .ok (.getfield 37, 3) := by decide +kernel
theorem dX6_secondPremise_9 : decode cX6_secondPremise 9 = .ok (.if_icmp .ge 12, 3) := by decide +kernel
theorem dX6_secondPremise_12 : decode cX6_secondPremise 12 = .ok (.aload_n 0, 1) := by decide +kernel
theorem dX6_secondPremise_13 : decode cX6_secondPremise 13 = .ok (.getfield 18, 3) := by decide +kernel
theorem dX6_secondPremise_16 : decode cX6_secondPremise 16 = .ok (.iload_n 1, 1) := by decide +kernel
theorem dX6_secondPremise_17 : decode cX6_secondPremise 17 = .ok (.iaload, 1) := by decide +kernel
theorem dX6_secondPremise_18 : decode cX6_secondPremise 18 = .ok (.goto 4, 3) := by decide +kernel
theorem dX6_secondPremise_21 : decode cX6_secondPremise 21 = .ok (.iconst (-1), 1) := by decide +kernel
theorem dX6_secondPremise_22 : decode cX6_secondPremise 22 = .ok (.ireturn, 1) := by decide +kernel
theorem dX6_lines_0 : decode cX6_lines 0 = .ok (.iload_n 1, 1) := by decide +kernel
theorem dX6_lines_1 : decode cX6_lines 1 = .ok (.ifCond .lt 20, 3) := by decide +kernel
theorem dX6_lines_4 : decode cX6_lines 4 = .ok (.iload_n 1, 1) := by decide +kernel
theorem dX6_lines_5 : decode cX6_lines 5 = .ok (.aload_n 0, 1) := by decide +kernel
theorem dX6_lines_6 : decode cX6_lines 6 = .ok (.getfield 37, 3) := by decide +kernel
theorem dX6_lines_9 : decode cX6_lines 9 = .ok (.if_icmp .ge 12, 3) := by decide +kernel
theorem dX6_lines_12 : decode cX6_lines 12 = .ok (.aload_n 0, 1) := by decide +kernel
theorem dX6_lines_13 : decode cX6_lines 13 = .ok (.getfield 21, 3) := by decide +kernel
theorem dX6_lines_16 : decode cX6_lines 16 = .ok (.iload_n 1, 1) := by decide +kernel
theorem dX6_lines_17 : decode cX6_lines 17 = .ok (.iaload, 1) := by decide +kernel
theorem dX6_lines_18 : decode cX6_lines 18 = .ok (.goto 4, 3) := by decide +kernel
theorem dX6_lines_21 : decode cX6_lines 21 = .ok (.iconst 0, 1) := by decide +kernel
theorem dX6_lines_22 : decode cX6_lines 22 = .ok (.ireturn, 1) := by decide +kernel
theorem dX6_needed_0 : decode cX6_needed 0 = .ok (.iload_n 1, 1) := by decide +kernel
theorem dX6_needed_1 : decode cX6_needed 1 = .ok (.ifCond .lt 20, 3) := by decide +kernel
theorem dX6_needed_4 : decode cX6_needed 4 = .ok (.iload_n 1, 1) := by decide +kernel
theorem dX6_needed_5 : decode cX6_needed 5 = .ok (.aload_n 0, 1) := by decide +kernel
theorem dX6_needed_6 : decode cX6_needed 6 = .ok (.getfield 37, 3) := by decide +kernel
theorem dX6_needed_9 : decode cX6_needed 9 = .ok (.if_icmp .ge 12, 3) := by decide +kernel
theorem dX6_needed_12 : decode cX6_needed 12 = .ok (.aload_n 0, 1) := by decide +kernel
theorem dX6_needed_13 : decode cX6_needed 13 = .ok (.getfield 24, 3) := by decide +kernel
theorem dX6_needed_16 : decode cX6_needed 16 = .ok (.iload_n 1, 1) := by decide +kernel
theorem dX6_needed_17 : decode cX6_needed 17 = .ok (.iaload, 1) := by decide +kernel
theorem dX6_needed_18 : decode cX6_needed 18 = .ok (.goto 4, 3) := by decide +kernel
theorem dX6_needed_21 : decode cX6_needed 21 = .ok (.iconst 0, 1) := by decide +kernel
theorem dX6_needed_22 : decode cX6_needed 22 = .ok (.ireturn, 1) := by decide +kernel
theorem dX6_uses_0 : decode cX6_uses 0 = .ok (.iload_n 1, 1) := by decide +kernel
theorem dX6_uses_1 : decode cX6_uses 1 = .ok (.ifCond .lt 20, 3) := by decide +kernel
theorem dX6_uses_4 : decode cX6_uses 4 = .ok (.iload_n 1, 1) := by decide +kernel
theorem dX6_uses_5 : decode cX6_uses 5 = .ok (.aload_n 0, 1) := by decide +kernel
theorem dX6_uses_6 : decode cX6_uses 6 = .ok (.getfield 37, 3) := by decide +kernel
theorem dX6_uses_9 : decode cX6_uses 9 = .ok (.if_icmp .ge 12, 3) := by decide +kernel
theorem dX6_uses_12 : decode cX6_uses 12 = .ok (.aload_n 0, 1) := by decide +kernel
theorem dX6_uses_13 : decode cX6_uses 13 = .ok (.getfield 27, 3) := by decide +kernel
theorem dX6_uses_16 : decode cX6_uses 16 = .ok (.iload_n 1, 1) := by decide +kernel
theorem dX6_uses_17 : decode cX6_uses 17 = .ok (.iaload, 1) := by decide +kernel
theorem dX6_uses_18 : decode cX6_uses 18 = .ok (.goto 4, 3) := by decide +kernel
theorem dX6_uses_21 : decode cX6_uses 21 = .ok (.iconst 0, 1) := by decide +kernel
theorem dX6_uses_22 : decode cX6_uses 22 = .ok (.ireturn, 1) := by decide +kernel
theorem dX6_noteUse_0 : decode cX6_noteUse 0 = .ok (.iload_n 1, 1) := by decide +kernel
theorem dX6_noteUse_1 : decode cX6_noteUse 1 = .ok (.ifCond .lt 21, 3) := by decide +kernel
theorem dX6_noteUse_4 : decode cX6_noteUse 4 = .ok (.iload_n 1, 1) := by decide +kernel
theorem dX6_noteUse_5 : decode cX6_noteUse 5 = .ok (.aload_n 0, 1) := by decide +kernel
theorem dX6_noteUse_6 : decode cX6_noteUse 6 = .ok (.getfield 37, 3) := by decide +kernel
theorem dX6_noteUse_9 : decode cX6_noteUse 9 = .ok (.if_icmp .ge 13, 3) := by decide +kernel
theorem dX6_noteUse_12 : decode cX6_noteUse 12 = .ok (.aload_n 0, 1) := by decide +kernel
theorem dX6_noteUse_13 : decode cX6_noteUse 13 = .ok (.getfield 27, 3) := by decide +kernel
theorem dX6_noteUse_16 : decode cX6_noteUse 16 = .ok (.iload_n 1, 1) := by decide +kernel
theorem dX6_noteUse_17 : decode cX6_noteUse 17 = .ok (.dup2, 1) := by decide +kernel
theorem dX6_noteUse_18 : decode cX6_noteUse 18 = .ok (.iaload, 1) := by decide +kernel
theorem dX6_noteUse_19 : decode cX6_noteUse 19 = .ok (.iconst 1, 1) := by decide +kernel
theorem dX6_noteUse_20 : decode cX6_noteUse 20 = .ok (.iadd, 1) := by decide +kernel
theorem dX6_noteUse_21 : decode cX6_noteUse 21 = .ok (.iastore, 1) := by decide +kernel
theorem dX6_noteUse_22 : decode cX6_noteUse 22 = .ok (.return_, 1) := by decide +kernel
theorem dX6_add_0 : decode cX6_add 0 = .ok (.aload_n 0, 1) := by decide +kernel
theorem dX6_add_1 : decode cX6_add 1 = .ok (.getfield 37, 3) := by decide +kernel
theorem dX6_add_4 : decode cX6_add 4 = .ok (.istore 6, 2) := by decide +kernel
theorem dX6_add_6 : decode cX6_add 6 = .ok (.iload 6, 2) := by decide +kernel
theorem dX6_add_8 : decode cX6_add 8 = .ok (.ifCond .lt 10, 3) := by decide +kernel
theorem dX6_add_11 : decode cX6_add 11 = .ok (.iload 6, 2) := by decide +kernel
theorem dX6_add_13 : decode cX6_add 13 = .ok (.bipush 16, 2) := by decide +kernel
theorem dX6_add_15 : decode cX6_add 15 = .ok (.if_icmp .lt 5, 3) := by decide +kernel
theorem dX6_add_18 : decode cX6_add 18 = .ok (.iconst (-1), 1) := by decide +kernel
theorem dX6_add_19 : decode cX6_add 19 = .ok (.ireturn, 1) := by decide +kernel
theorem dX6_add_20 : decode cX6_add 20 = .ok (.aload_n 0, 1) := by decide +kernel
theorem dX6_add_21 : decode cX6_add 21 = .ok (.getfield 9, 3) := by decide +kernel
theorem dX6_add_24 : decode cX6_add 24 = .ok (.iload 6, 2) := by decide +kernel
theorem dX6_add_26 : decode cX6_add 26 = .ok (.iload_n 1, 1) := by decide +kernel
theorem dX6_add_27 : decode cX6_add 27 = .ok (.iastore, 1) := by decide +kernel
theorem dX6_add_28 : decode cX6_add 28 = .ok (.aload_n 0, 1) := by decide +kernel
theorem dX6_add_29 : decode cX6_add 29 = .ok (.getfield 15, 3) := by decide +kernel
theorem dX6_add_32 : decode cX6_add 32 = .ok (.iload 6, 2) := by decide +kernel
theorem dX6_add_34 : decode cX6_add 34 = .ok (.iload_n 2, 1) := by decide +kernel
theorem dX6_add_35 : decode cX6_add 35 = .ok (.iastore, 1) := by decide +kernel
theorem dX6_add_36 : decode cX6_add 36 = .ok (.aload_n 0, 1) := by decide +kernel
theorem dX6_add_37 : decode cX6_add 37 = .ok (.getfield 18, 3) := by decide +kernel
theorem dX6_add_40 : decode cX6_add 40 = .ok (.iload 6, 2) := by decide +kernel
theorem dX6_add_42 : decode cX6_add 42 = .ok (.iload_n 3, 1) := by decide +kernel
theorem dX6_add_43 : decode cX6_add 43 = .ok (.iastore, 1) := by decide +kernel
theorem dX6_add_44 : decode cX6_add 44 = .ok (.aload_n 0, 1) := by decide +kernel
theorem dX6_add_45 : decode cX6_add 45 = .ok (.getfield 21, 3) := by decide +kernel
theorem dX6_add_48 : decode cX6_add 48 = .ok (.iload 6, 2) := by decide +kernel
theorem dX6_add_50 : decode cX6_add 50 = .ok (.iload 4, 2) := by decide +kernel
theorem dX6_add_52 : decode cX6_add 52 = .ok (.iastore, 1) := by decide +kernel
theorem dX6_add_53 : decode cX6_add 53 = .ok (.aload_n 0, 1) := by decide +kernel
theorem dX6_add_54 : decode cX6_add 54 = .ok (.getfield 24, 3) := by decide +kernel
theorem dX6_add_57 : decode cX6_add 57 = .ok (.iload 6, 2) := by decide +kernel
theorem dX6_add_59 : decode cX6_add 59 = .ok (.iload 5, 2) := by decide +kernel
theorem dX6_add_61 : decode cX6_add 61 = .ok (.iastore, 1) := by decide +kernel
theorem dX6_add_62 : decode cX6_add 62 = .ok (.aload_n 0, 1) := by decide +kernel
theorem dX6_add_63 : decode cX6_add 63 = .ok (.getfield 27, 3) := by decide +kernel
theorem dX6_add_66 : decode cX6_add 66 = .ok (.iload 6, 2) := by decide +kernel
theorem dX6_add_68 : decode cX6_add 68 = .ok (.iconst 0, 1) := by decide +kernel
theorem dX6_add_69 : decode cX6_add 69 = .ok (.iastore, 1) := by decide +kernel
theorem dX6_add_70 : decode cX6_add 70 = .ok (.aload_n 0, 1) := by decide +kernel
theorem dX6_add_71 : decode cX6_add 71 = .ok (.dup, 1) := by decide +kernel
theorem dX6_add_72 : decode cX6_add 72 = .ok (.getfield 37, 3) := by decide +kernel
theorem dX6_add_75 : decode cX6_add 75 = .ok (.iconst 1, 1) := by decide +kernel
theorem dX6_add_76 : decode cX6_add 76 = .ok (.iadd, 1) := by decide +kernel
theorem dX6_add_77 : decode cX6_add 77 = .ok (.putfield 37, 3) := by decide +kernel
theorem dX6_add_80 : decode cX6_add 80 = .ok (.iload 6, 2) := by decide +kernel
theorem dX6_add_82 : decode cX6_add 82 = .ok (.ireturn, 1) := by decide +kernel
theorem dX6_neededShare_0 : decode cX6_neededShare 0 = .ok (.iconst 0, 1) := by decide +kernel
theorem dX6_neededShare_1 : decode cX6_neededShare 1 = .ok (.istore_n 1, 1) := by decide +kernel
theorem dX6_neededShare_2 : decode cX6_neededShare 2 = .ok (.iconst 0, 1) := by decide +kernel
theorem dX6_neededShare_3 : decode cX6_neededShare 3 = .ok (.istore_n 2, 1) := by decide +kernel
theorem dX6_neededShare_4 : decode cX6_neededShare 4 = .ok (.iconst 0, 1) := by decide +kernel
theorem dX6_neededShare_5 : decode cX6_neededShare 5 = .ok (.istore_n 3, 1) := by decide +kernel
theorem dX6_neededShare_6 : decode cX6_neededShare 6 = .ok (.iload_n 3, 1) := by decide +kernel
theorem dX6_neededShare_7 : decode cX6_neededShare 7 = .ok (.aload_n 0, 1) := by decide +kernel
theorem dX6_neededShare_8 : decode cX6_neededShare 8 = .ok (.getfield 37, 3) := by decide +kernel
theorem dX6_neededShare_11 : decode cX6_neededShare 11 = .ok (.if_icmp .ge 33, 3) := by decide +kernel
theorem dX6_neededShare_14 : decode cX6_neededShare 14 = .ok (.iload_n 3, 1) := by decide +kernel
theorem dX6_neededShare_15 : decode cX6_neededShare 15 = .ok (.bipush 16, 2) := by decide +kernel
theorem dX6_neededShare_17 : decode cX6_neededShare 17 = .ok (.if_icmp .ge 27, 3) := by decide +kernel
theorem dX6_neededShare_20 : decode cX6_neededShare 20 = .ok (.iload_n 1, 1) := by decide +kernel
theorem dX6_neededShare_21 : decode cX6_neededShare 21 = .ok (.aload_n 0, 1) := by decide +kernel
theorem dX6_neededShare_22 : decode cX6_neededShare 22 = .ok (.getfield 24, 3) := by decide +kernel
theorem dX6_neededShare_25 : decode cX6_neededShare 25 = .ok (.iload_n 3, 1) := by decide +kernel
theorem dX6_neededShare_26 : decode cX6_neededShare 26 = .ok (.iaload, 1) := by decide +kernel
theorem dX6_neededShare_27 : decode cX6_neededShare 27 = .ok (.iadd, 1) := by decide +kernel
theorem dX6_neededShare_28 : decode cX6_neededShare 28 = .ok (.istore_n 1, 1) := by decide +kernel
theorem dX6_neededShare_29 : decode cX6_neededShare 29 = .ok (.iload_n 2, 1) := by decide +kernel
theorem dX6_neededShare_30 : decode cX6_neededShare 30 = .ok (.aload_n 0, 1) := by decide +kernel
theorem dX6_neededShare_31 : decode cX6_neededShare 31 = .ok (.getfield 21, 3) := by decide +kernel
theorem dX6_neededShare_34 : decode cX6_neededShare 34 = .ok (.iload_n 3, 1) := by decide +kernel
theorem dX6_neededShare_35 : decode cX6_neededShare 35 = .ok (.iaload, 1) := by decide +kernel
theorem dX6_neededShare_36 : decode cX6_neededShare 36 = .ok (.iadd, 1) := by decide +kernel
theorem dX6_neededShare_37 : decode cX6_neededShare 37 = .ok (.istore_n 2, 1) := by decide +kernel
theorem dX6_neededShare_38 : decode cX6_neededShare 38 = .ok (.iinc 3 1, 3) := by decide +kernel
theorem dX6_neededShare_41 : decode cX6_neededShare 41 = .ok (.goto (-35), 3) := by decide +kernel
theorem dX6_neededShare_44 : decode cX6_neededShare 44 = .ok (.iload_n 2, 1) := by decide +kernel
theorem dX6_neededShare_45 : decode cX6_neededShare 45 = .ok (.ifCond .gt 7, 3) := by decide +kernel
theorem dX6_neededShare_48 : decode cX6_neededShare 48 = .ok (.dconst 1, 1) := by decide +kernel
theorem dX6_neededShare_49 : decode cX6_neededShare 49 = .ok (.goto 8, 3) := by decide +kernel
theorem dX6_neededShare_52 : decode cX6_neededShare 52 = .ok (.iload_n 1, 1) := by decide +kernel
theorem dX6_neededShare_53 : decode cX6_neededShare 53 = .ok (.i2d, 1) := by decide +kernel
theorem dX6_neededShare_54 : decode cX6_neededShare 54 = .ok (.iload_n 2, 1) := by decide +kernel
theorem dX6_neededShare_55 : decode cX6_neededShare 55 = .ok (.i2d, 1) := by decide +kernel
theorem dX6_neededShare_56 : decode cX6_neededShare 56 = .ok (.ddiv, 1) := by decide +kernel
theorem dX6_neededShare_57 : decode cX6_neededShare 57 = .ok (.dreturn, 1) := by decide +kernel
theorem dX6_concludes_0 : decode cX6_concludes 0 = .ok (.aload_n 0, 1) := by decide +kernel
theorem dX6_concludes_1 : decode cX6_concludes 1 = .ok (.iload_n 1, 1) := by decide +kernel
theorem dX6_concludes_2 : decode cX6_concludes 2 = .ok (.iload_n 2, 1) := by decide +kernel
theorem dX6_concludes_3 : decode cX6_concludes 3 = .ok (.iconst (-1), 1) := by decide +kernel
theorem dX6_concludes_4 : decode cX6_concludes 4 = .ok (.iconst (-1), 1) := by decide +kernel
theorem dX6_concludes_5 : decode cX6_concludes 5 = .ok (.invokevirtual 41, 3) := by decide +kernel
theorem dX6_concludes_8 : decode cX6_concludes 8 = .ok (.ireturn, 1) := by decide +kernel
theorem dX6_saysWithPremises_0 : decode cX6_saysWithPremises 0 = .ok (.aload_n 0, 1) := by decide +kernel
theorem dX6_saysWithPremises_1 : decode cX6_saysWithPremises 1 = .ok (.getfield 30, 3) := by decide +kernel
theorem dX6_saysWithPremises_4 : decode cX6_saysWithPremises 4 = .ok (.iconst (-1), 1) := by decide +kernel
theorem dX6_saysWithPremises_5 : decode cX6_saysWithPremises 5 = .ok (.invokestatic 45, 3) := by decide +kernel
theorem dX6_saysWithPremises_8 : decode cX6_saysWithPremises 8 = .ok (.aload_n 0, 1) := by decide +kernel
theorem dX6_saysWithPremises_9 : decode cX6_saysWithPremises 9 = .ok (.aload_n 0, 1) := by decide +kernel
theorem dX6_saysWithPremises_10 : decode cX6_saysWithPremises 10 = .ok (.iload_n 1, 1) := by decide +kernel
theorem dX6_saysWithPremises_11 : decode cX6_saysWithPremises 11 = .ok (.invokevirtual 51, 3) := by decide +kernel
theorem dX6_saysWithPremises_14 : decode cX6_saysWithPremises 14 = .ok (.iload_n 2, 1) := by decide +kernel
theorem dX6_saysWithPremises_15 : decode cX6_saysWithPremises 15 = .ok (.invokevirtual 55, 3) := by decide +kernel
theorem dX6_saysWithPremises_18 : decode cX6_saysWithPremises 18 = .ok (.ifCond .eq 43, 3) := by decide +kernel
theorem dX6_saysWithPremises_21 : decode cX6_saysWithPremises 21 = .ok (.iload_n 3, 1) := by decide +kernel
theorem dX6_saysWithPremises_22 : decode cX6_saysWithPremises 22 = .ok (.ifCond .lt 16, 3) := by decide +kernel
theorem dX6_saysWithPremises_25 : decode cX6_saysWithPremises 25 = .ok (.aload_n 0, 1) := by decide +kernel
theorem dX6_saysWithPremises_26 : decode cX6_saysWithPremises 26 = .ok (.aload_n 0, 1) := by decide +kernel
theorem dX6_saysWithPremises_27 : decode cX6_saysWithPremises 27 = .ok (.iload_n 1, 1) := by decide +kernel
theorem dX6_saysWithPremises_28 : decode cX6_saysWithPremises 28 = .ok (.invokevirtual 59, 3) := by decide +kernel
theorem dX6_saysWithPremises_31 : decode cX6_saysWithPremises 31 = .ok (.iload_n 3, 1) := by decide +kernel
theorem dX6_saysWithPremises_32 : decode cX6_saysWithPremises 32 = .ok (.invokevirtual 55, 3) := by decide +kernel
theorem dX6_saysWithPremises_35 : decode cX6_saysWithPremises 35 = .ok (.ifCond .eq 26, 3) := by decide +kernel
theorem dX6_saysWithPremises_38 : decode cX6_saysWithPremises 38 = .ok (.iload 4, 2) := by decide +kernel
theorem dX6_saysWithPremises_40 : decode cX6_saysWithPremises 40 = .ok (.ifCond .lt 17, 3) := by decide +kernel
theorem dX6_saysWithPremises_43 : decode cX6_saysWithPremises 43 = .ok (.aload_n 0, 1) := by decide +kernel
theorem dX6_saysWithPremises_44 : decode cX6_saysWithPremises 44 = .ok (.aload_n 0, 1) := by decide +kernel
theorem dX6_saysWithPremises_45 : decode cX6_saysWithPremises 45 = .ok (.iload_n 1, 1) := by decide +kernel
theorem dX6_saysWithPremises_46 : decode cX6_saysWithPremises 46 = .ok (.invokevirtual 62, 3) := by decide +kernel
theorem dX6_saysWithPremises_49 : decode cX6_saysWithPremises 49 = .ok (.iload 4, 2) := by decide +kernel
theorem dX6_saysWithPremises_51 : decode cX6_saysWithPremises 51 = .ok (.invokevirtual 55, 3) := by decide +kernel
theorem dX6_saysWithPremises_54 : decode cX6_saysWithPremises 54 = .ok (.ifCond .eq 7, 3) := by decide +kernel
theorem dX6_saysWithPremises_57 : decode cX6_saysWithPremises 57 = .ok (.iconst 1, 1) := by decide +kernel
theorem dX6_saysWithPremises_58 : decode cX6_saysWithPremises 58 = .ok (.goto 4, 3) := by decide +kernel
theorem dX6_saysWithPremises_61 : decode cX6_saysWithPremises 61 = .ok (.iconst 0, 1) := by decide +kernel
theorem dX6_saysWithPremises_62 : decode cX6_saysWithPremises 62 = .ok (.istore 5, 2) := by decide +kernel
theorem dX6_saysWithPremises_64 : decode cX6_saysWithPremises 64 = .ok (.sipush 239, 3) := by decide +kernel
theorem dX6_saysWithPremises_67 : decode cX6_saysWithPremises 67 = .ok (.istore 6, 2) := by decide +kernel
theorem dX6_saysWithPremises_69 : decode cX6_saysWithPremises 69 = .ok (.iload 6, 2) := by decide +kernel
theorem dX6_saysWithPremises_71 : decode cX6_saysWithPremises 71 = .ok (.ifCond .lt 47, 3) := by decide +kernel
theorem dX6_saysWithPremises_74 : decode cX6_saysWithPremises 74 = .ok (.iload 5, 2) := by decide +kernel
theorem dX6_saysWithPremises_76 : decode cX6_saysWithPremises 76 = .ok (.ifCond .eq 42, 3) := by decide +kernel
theorem dX6_saysWithPremises_79 : decode cX6_saysWithPremises 79 = .ok (.aload_n 0, 1) := by decide +kernel
theorem dX6_saysWithPremises_80 : decode cX6_saysWithPremises 80 = .ok (.getfield 30, 3) := by decide +kernel
theorem dX6_saysWithPremises_83 : decode cX6_saysWithPremises 83 = .ok (.iload 6, 2) := by decide +kernel
theorem dX6_saysWithPremises_85 : decode cX6_saysWithPremises 85 = .ok (.iaload, 1) := by decide +kernel
theorem dX6_saysWithPremises_86 : decode cX6_saysWithPremises 86 = .ok (.ifCond .lt 19, 3) := by decide +kernel
theorem dX6_saysWithPremises_89 : decode cX6_saysWithPremises 89 = .ok (.aload_n 0, 1) := by decide +kernel
theorem dX6_saysWithPremises_90 : decode cX6_saysWithPremises 90 = .ok (.iload 6, 2) := by decide +kernel
theorem dX6_saysWithPremises_92 : decode cX6_saysWithPremises 92 = .ok (.aload_n 0, 1) := by decide +kernel
theorem dX6_saysWithPremises_93 : decode cX6_saysWithPremises 93 = .ok (.getfield 30, 3) := by decide +kernel
theorem dX6_saysWithPremises_96 : decode cX6_saysWithPremises 96 = .ok (.iload 6, 2) := by decide +kernel
theorem dX6_saysWithPremises_98 : decode cX6_saysWithPremises 98 = .ok (.iaload, 1) := by decide +kernel
theorem dX6_saysWithPremises_99 : decode cX6_saysWithPremises 99 = .ok (.invokevirtual 65, 3) := by decide +kernel
theorem dX6_saysWithPremises_102 : decode cX6_saysWithPremises 102 = .ok (.ifCond .eq 7, 3) := by decide +kernel
theorem dX6_saysWithPremises_105 : decode cX6_saysWithPremises 105 = .ok (.iconst 1, 1) := by decide +kernel
theorem dX6_saysWithPremises_106 : decode cX6_saysWithPremises 106 = .ok (.goto 4, 3) := by decide +kernel
theorem dX6_saysWithPremises_109 : decode cX6_saysWithPremises 109 = .ok (.iconst 0, 1) := by decide +kernel
theorem dX6_saysWithPremises_110 : decode cX6_saysWithPremises 110 = .ok (.istore 5, 2) := by decide +kernel
theorem dX6_saysWithPremises_112 : decode cX6_saysWithPremises 112 = .ok (.iinc 6 (-1), 3) := by decide +kernel
theorem dX6_saysWithPremises_115 : decode cX6_saysWithPremises 115 = .ok (.goto (-46), 3) := by decide +kernel
theorem dX6_saysWithPremises_118 : decode cX6_saysWithPremises 118 = .ok (.iload 5, 2) := by decide +kernel
theorem dX6_saysWithPremises_120 : decode cX6_saysWithPremises 120 = .ok (.ireturn, 1) := by decide +kernel
theorem dX6_imageOfLetter_0 : decode cX6_imageOfLetter 0 = .ok (.aload_n 0, 1) := by decide +kernel
theorem dX6_imageOfLetter_1 : decode cX6_imageOfLetter 1 = .ok (.getfield 33, 3) := by decide +kernel
theorem dX6_imageOfLetter_4 : decode cX6_imageOfLetter 4 = .ok (.iconst 0, 1) := by decide +kernel
theorem dX6_imageOfLetter_5 : decode cX6_imageOfLetter 5 = .ok (.iload_n 1, 1) := by decide +kernel
theorem dX6_imageOfLetter_6 : decode cX6_imageOfLetter 6 = .ok (.iconst (-1), 1) := by decide +kernel
theorem dX6_imageOfLetter_7 : decode cX6_imageOfLetter 7 = .ok (.invokevirtual 68, 3) := by decide +kernel
theorem dX6_imageOfLetter_10 : decode cX6_imageOfLetter 10 = .ok (.istore_n 2, 1) := by decide +kernel
theorem dX6_imageOfLetter_11 : decode cX6_imageOfLetter 11 = .ok (.iload_n 2, 1) := by decide +kernel
theorem dX6_imageOfLetter_12 : decode cX6_imageOfLetter 12 = .ok (.ifCond .lt 19, 3) := by decide +kernel
theorem dX6_imageOfLetter_15 : decode cX6_imageOfLetter 15 = .ok (.iload_n 2, 1) := by decide +kernel
theorem dX6_imageOfLetter_16 : decode cX6_imageOfLetter 16 = .ok (.sipush 240, 3) := by decide +kernel
theorem dX6_imageOfLetter_19 : decode cX6_imageOfLetter 19 = .ok (.if_icmp .ge 12, 3) := by decide +kernel
theorem dX6_imageOfLetter_22 : decode cX6_imageOfLetter 22 = .ok (.aload_n 0, 1) := by decide +kernel
theorem dX6_imageOfLetter_23 : decode cX6_imageOfLetter 23 = .ok (.getfield 30, 3) := by decide +kernel
theorem dX6_imageOfLetter_26 : decode cX6_imageOfLetter 26 = .ok (.iload_n 2, 1) := by decide +kernel
theorem dX6_imageOfLetter_27 : decode cX6_imageOfLetter 27 = .ok (.iaload, 1) := by decide +kernel
theorem dX6_imageOfLetter_28 : decode cX6_imageOfLetter 28 = .ok (.goto 4, 3) := by decide +kernel
theorem dX6_imageOfLetter_31 : decode cX6_imageOfLetter 31 = .ok (.iconst (-1), 1) := by decide +kernel
theorem dX6_imageOfLetter_32 : decode cX6_imageOfLetter 32 = .ok (.ireturn, 1) := by decide +kernel
theorem dX6_partsBecome_0 : decode cX6_partsBecome 0 = .ok (.aload_n 0, 1) := by decide +kernel
theorem dX6_partsBecome_1 : decode cX6_partsBecome 1 = .ok (.getfield 33, 3) := by decide +kernel
theorem dX6_partsBecome_4 : decode cX6_partsBecome 4 = .ok (.iload_n 1, 1) := by decide +kernel
theorem dX6_partsBecome_5 : decode cX6_partsBecome 5 = .ok (.invokevirtual 74, 3) := by decide +kernel
theorem dX6_partsBecome_8 : decode cX6_partsBecome 8 = .ok (.istore_n 3, 1) := by decide +kernel
theorem dX6_partsBecome_9 : decode cX6_partsBecome 9 = .ok (.iload_n 3, 1) := by decide +kernel
theorem dX6_partsBecome_10 : decode cX6_partsBecome 10 = .ok (.ifCond .ne 5, 3) := by decide +kernel
theorem dX6_partsBecome_13 : decode cX6_partsBecome 13 = .ok (.iconst 1, 1) := by decide +kernel
theorem dX6_partsBecome_14 : decode cX6_partsBecome 14 = .ok (.ireturn, 1) := by decide +kernel
theorem dX6_partsBecome_15 : decode cX6_partsBecome 15 = .ok (.iload_n 3, 1) := by decide +kernel
theorem dX6_partsBecome_16 : decode cX6_partsBecome 16 = .ok (.aload_n 0, 1) := by decide +kernel
theorem dX6_partsBecome_17 : decode cX6_partsBecome 17 = .ok (.getfield 33, 3) := by decide +kernel
theorem dX6_partsBecome_20 : decode cX6_partsBecome 20 = .ok (.iload_n 2, 1) := by decide +kernel
theorem dX6_partsBecome_21 : decode cX6_partsBecome 21 = .ok (.invokevirtual 74, 3) := by decide +kernel
theorem dX6_partsBecome_24 : decode cX6_partsBecome 24 = .ok (.if_icmp .ne 63, 3) := by decide +kernel
theorem dX6_partsBecome_27 : decode cX6_partsBecome 27 = .ok (.iload_n 3, 1) := by decide +kernel
theorem dX6_partsBecome_28 : decode cX6_partsBecome 28 = .ok (.iconst 2, 1) := by decide +kernel
theorem dX6_partsBecome_29 : decode cX6_partsBecome 29 = .ok (.if_icmp .lt 26, 3) := by decide +kernel
theorem dX6_partsBecome_32 : decode cX6_partsBecome 32 = .ok (.aload_n 0, 1) := by decide +kernel
theorem dX6_partsBecome_33 : decode cX6_partsBecome 33 = .ok (.aload_n 0, 1) := by decide +kernel
theorem dX6_partsBecome_34 : decode cX6_partsBecome 34 = .ok (.getfield 33, 3) := by decide +kernel
theorem dX6_partsBecome_37 : decode cX6_partsBecome 37 = .ok (.iload_n 1, 1) := by decide +kernel
theorem dX6_partsBecome_38 : decode cX6_partsBecome 38 = .ok (.invokevirtual 77, 3) := by decide +kernel
theorem dX6_partsBecome_41 : decode cX6_partsBecome 41 = .ok (.aload_n 0, 1) := by decide +kernel
theorem dX6_partsBecome_42 : decode cX6_partsBecome 42 = .ok (.getfield 33, 3) := by decide +kernel
theorem dX6_partsBecome_45 : decode cX6_partsBecome 45 = .ok (.iload_n 2, 1) := by decide +kernel
theorem dX6_partsBecome_46 : decode cX6_partsBecome 46 = .ok (.invokevirtual 77, 3) := by decide +kernel
theorem dX6_partsBecome_49 : decode cX6_partsBecome 49 = .ok (.invokevirtual 55, 3) := by decide +kernel
theorem dX6_partsBecome_52 : decode cX6_partsBecome 52 = .ok (.ifCond .eq 35, 3) := by decide +kernel
theorem dX6_partsBecome_55 : decode cX6_partsBecome 55 = .ok (.iload_n 3, 1) := by decide +kernel
theorem dX6_partsBecome_56 : decode cX6_partsBecome 56 = .ok (.iconst 3, 1) := by decide +kernel
theorem dX6_partsBecome_57 : decode cX6_partsBecome 57 = .ok (.if_icmp .lt 26, 3) := by decide +kernel
theorem dX6_partsBecome_60 : decode cX6_partsBecome 60 = .ok (.aload_n 0, 1) := by decide +kernel
theorem dX6_partsBecome_61 : decode cX6_partsBecome 61 = .ok (.aload_n 0, 1) := by decide +kernel
theorem dX6_partsBecome_62 : decode cX6_partsBecome 62 = .ok (.getfield 33, 3) := by decide +kernel
theorem dX6_partsBecome_65 : decode cX6_partsBecome 65 = .ok (.iload_n 1, 1) := by decide +kernel
theorem dX6_partsBecome_66 : decode cX6_partsBecome 66 = .ok (.invokevirtual 80, 3) := by decide +kernel
theorem dX6_partsBecome_69 : decode cX6_partsBecome 69 = .ok (.aload_n 0, 1) := by decide +kernel
theorem dX6_partsBecome_70 : decode cX6_partsBecome 70 = .ok (.getfield 33, 3) := by decide +kernel
theorem dX6_partsBecome_73 : decode cX6_partsBecome 73 = .ok (.iload_n 2, 1) := by decide +kernel
theorem dX6_partsBecome_74 : decode cX6_partsBecome 74 = .ok (.invokevirtual 80, 3) := by decide +kernel
theorem dX6_partsBecome_77 : decode cX6_partsBecome 77 = .ok (.invokevirtual 55, 3) := by decide +kernel
theorem dX6_partsBecome_80 : decode cX6_partsBecome 80 = .ok (.ifCond .eq 7, 3) := by decide +kernel
theorem dX6_partsBecome_83 : decode cX6_partsBecome 83 = .ok (.iconst 1, 1) := by decide +kernel
theorem dX6_partsBecome_84 : decode cX6_partsBecome 84 = .ok (.goto 4, 3) := by decide +kernel
theorem dX6_partsBecome_87 : decode cX6_partsBecome 87 = .ok (.iconst 0, 1) := by decide +kernel
theorem dX6_partsBecome_88 : decode cX6_partsBecome 88 = .ok (.ireturn, 1) := by decide +kernel
theorem dX6_becomes_0 : decode cX6_becomes 0 = .ok (.iload_n 1, 1) := by decide +kernel
theorem dX6_becomes_1 : decode cX6_becomes 1 = .ok (.ifCond .lt 10, 3) := by decide +kernel
theorem dX6_becomes_4 : decode cX6_becomes 4 = .ok (.iload_n 1, 1) := by decide +kernel
theorem dX6_becomes_5 : decode cX6_becomes 5 = .ok (.sipush 240, 3) := by decide +kernel
theorem dX6_becomes_8 : decode cX6_becomes 8 = .ok (.if_icmp .lt 5, 3) := by decide +kernel
theorem dX6_becomes_11 : decode cX6_becomes 11 = .ok (.iconst 0, 1) := by decide +kernel
theorem dX6_becomes_12 : decode cX6_becomes 12 = .ok (.ireturn, 1) := by decide +kernel
theorem dX6_becomes_13 : decode cX6_becomes 13 = .ok (.aload_n 0, 1) := by decide +kernel
theorem dX6_becomes_14 : decode cX6_becomes 14 = .ok (.getfield 30, 3) := by decide +kernel
theorem dX6_becomes_17 : decode cX6_becomes 17 = .ok (.iload_n 1, 1) := by decide +kernel
theorem dX6_becomes_18 : decode cX6_becomes 18 = .ok (.iaload, 1) := by decide +kernel
theorem dX6_becomes_19 : decode cX6_becomes 19 = .ok (.ifCond .ge 10, 3) := by decide +kernel
theorem dX6_becomes_22 : decode cX6_becomes 22 = .ok (.aload_n 0, 1) := by decide +kernel
theorem dX6_becomes_23 : decode cX6_becomes 23 = .ok (.getfield 30, 3) := by decide +kernel
theorem dX6_becomes_26 : decode cX6_becomes 26 = .ok (.iload_n 1, 1) := by decide +kernel
theorem dX6_becomes_27 : decode cX6_becomes 27 = .ok (.iload_n 2, 1) := by decide +kernel
theorem dX6_becomes_28 : decode cX6_becomes 28 = .ok (.iastore, 1) := by decide +kernel
theorem dX6_becomes_29 : decode cX6_becomes 29 = .ok (.aload_n 0, 1) := by decide +kernel
theorem dX6_becomes_30 : decode cX6_becomes 30 = .ok (.getfield 30, 3) := by decide +kernel
theorem dX6_becomes_33 : decode cX6_becomes 33 = .ok (.iload_n 1, 1) := by decide +kernel
theorem dX6_becomes_34 : decode cX6_becomes 34 = .ok (.iaload, 1) := by decide +kernel
theorem dX6_becomes_35 : decode cX6_becomes 35 = .ok (.iload_n 2, 1) := by decide +kernel
theorem dX6_becomes_36 : decode cX6_becomes 36 = .ok (.if_icmp .ne 7, 3) := by decide +kernel
theorem dX6_becomes_39 : decode cX6_becomes 39 = .ok (.iconst 1, 1) := by decide +kernel
theorem dX6_becomes_40 : decode cX6_becomes 40 = .ok (.goto 4, 3) := by decide +kernel
theorem dX6_becomes_43 : decode cX6_becomes 43 = .ok (.iconst 0, 1) := by decide +kernel
theorem dX6_becomes_44 : decode cX6_becomes 44 = .ok (.ireturn, 1) := by decide +kernel
theorem dJ13_bitCount_95d88_0 : decode cJ13_bitCount_95d88 0 = .ok (.lload_n 0, 1) := by decide +kernel
theorem dJ13_bitCount_95d88_1 : decode cJ13_bitCount_95d88 1 = .ok (.lload_n 0, 1) := by decide +kernel
theorem dJ13_bitCount_95d88_2 : decode cJ13_bitCount_95d88 2 = .ok (.iconst 1, 1) := by decide +kernel
theorem dJ13_bitCount_95d88_3 : decode cJ13_bitCount_95d88 3 = .ok (.lushr, 1) := by decide +kernel
theorem dJ13_bitCount_95d88_4 : decode cJ13_bitCount_95d88 4 = .ok (.ldc2_w 314, 3) := by decide +kernel
theorem dJ13_bitCount_95d88_7 : decode cJ13_bitCount_95d88 7 = .ok (.land, 1) := by decide +kernel
theorem dJ13_bitCount_95d88_8 : decode cJ13_bitCount_95d88 8 = .ok (.lsub, 1) := by decide +kernel
theorem dJ13_bitCount_95d88_9 : decode cJ13_bitCount_95d88 9 = .ok (.lstore_n 0, 1) := by decide +kernel
theorem dJ13_bitCount_95d88_10 : decode cJ13_bitCount_95d88 10 = .ok (.lload_n 0, 1) := by decide +kernel
theorem dJ13_bitCount_95d88_11 : decode cJ13_bitCount_95d88 11 = .ok (.ldc2_w 316, 3) := by decide +kernel
theorem dJ13_bitCount_95d88_14 : decode cJ13_bitCount_95d88 14 = .ok (.land, 1) := by decide +kernel
theorem dJ13_bitCount_95d88_15 : decode cJ13_bitCount_95d88 15 = .ok (.lload_n 0, 1) := by decide +kernel
theorem dJ13_bitCount_95d88_16 : decode cJ13_bitCount_95d88 16 = .ok (.iconst 2, 1) := by decide +kernel
theorem dJ13_bitCount_95d88_17 : decode cJ13_bitCount_95d88 17 = .ok (.lushr, 1) := by decide +kernel
theorem dJ13_bitCount_95d88_18 : decode cJ13_bitCount_95d88 18 = .ok (.ldc2_w 316, 3) := by decide +kernel
theorem dJ13_bitCount_95d88_21 : decode cJ13_bitCount_95d88 21 = .ok (.land, 1) := by decide +kernel
theorem dJ13_bitCount_95d88_22 : decode cJ13_bitCount_95d88 22 = .ok (.ladd, 1) := by decide +kernel
theorem dJ13_bitCount_95d88_23 : decode cJ13_bitCount_95d88 23 = .ok (.lstore_n 0, 1) := by decide +kernel
theorem dJ13_bitCount_95d88_24 : decode cJ13_bitCount_95d88 24 = .ok (.lload_n 0, 1) := by decide +kernel
theorem dJ13_bitCount_95d88_25 : decode cJ13_bitCount_95d88 25 = .ok (.lload_n 0, 1) := by decide +kernel
theorem dJ13_bitCount_95d88_26 : decode cJ13_bitCount_95d88 26 = .ok (.iconst 4, 1) := by decide +kernel
theorem dJ13_bitCount_95d88_27 : decode cJ13_bitCount_95d88 27 = .ok (.lushr, 1) := by decide +kernel
theorem dJ13_bitCount_95d88_28 : decode cJ13_bitCount_95d88 28 = .ok (.ladd, 1) := by decide +kernel
theorem dJ13_bitCount_95d88_29 : decode cJ13_bitCount_95d88 29 = .ok (.ldc2_w 318, 3) := by decide +kernel
theorem dJ13_bitCount_95d88_32 : decode cJ13_bitCount_95d88 32 = .ok (.land, 1) := by decide +kernel
theorem dJ13_bitCount_95d88_33 : decode cJ13_bitCount_95d88 33 = .ok (.lstore_n 0, 1) := by decide +kernel
theorem dJ13_bitCount_95d88_34 : decode cJ13_bitCount_95d88 34 = .ok (.lload_n 0, 1) := by decide +kernel
theorem dJ13_bitCount_95d88_35 : decode cJ13_bitCount_95d88 35 = .ok (.lload_n 0, 1) := by decide +kernel
theorem dJ13_bitCount_95d88_36 : decode cJ13_bitCount_95d88 36 = .ok (.bipush 8, 2) := by decide +kernel
theorem dJ13_bitCount_95d88_38 : decode cJ13_bitCount_95d88 38 = .ok (.lushr, 1) := by decide +kernel
theorem dJ13_bitCount_95d88_39 : decode cJ13_bitCount_95d88 39 = .ok (.ladd, 1) := by decide +kernel
theorem dJ13_bitCount_95d88_40 : decode cJ13_bitCount_95d88 40 = .ok (.lstore_n 0, 1) := by decide +kernel
theorem dJ13_bitCount_95d88_41 : decode cJ13_bitCount_95d88 41 = .ok (.lload_n 0, 1) := by decide +kernel
theorem dJ13_bitCount_95d88_42 : decode cJ13_bitCount_95d88 42 = .ok (.lload_n 0, 1) := by decide +kernel
theorem dJ13_bitCount_95d88_43 : decode cJ13_bitCount_95d88 43 = .ok (.bipush 16, 2) := by decide +kernel
theorem dJ13_bitCount_95d88_45 : decode cJ13_bitCount_95d88 45 = .ok (.lushr, 1) := by decide +kernel
theorem dJ13_bitCount_95d88_46 : decode cJ13_bitCount_95d88 46 = .ok (.ladd, 1) := by decide +kernel
theorem dJ13_bitCount_95d88_47 : decode cJ13_bitCount_95d88 47 = .ok (.lstore_n 0, 1) := by decide +kernel
theorem dJ13_bitCount_95d88_48 : decode cJ13_bitCount_95d88 48 = .ok (.lload_n 0, 1) := by decide +kernel
theorem dJ13_bitCount_95d88_49 : decode cJ13_bitCount_95d88 49 = .ok (.lload_n 0, 1) := by decide +kernel
theorem dJ13_bitCount_95d88_50 : decode cJ13_bitCount_95d88 50 = .ok (.bipush 32, 2) := by decide +kernel
theorem dJ13_bitCount_95d88_52 : decode cJ13_bitCount_95d88 52 = .ok (.lushr, 1) := by decide +kernel
theorem dJ13_bitCount_95d88_53 : decode cJ13_bitCount_95d88 53 = .ok (.ladd, 1) := by decide +kernel
theorem dJ13_bitCount_95d88_54 : decode cJ13_bitCount_95d88 54 = .ok (.lstore_n 0, 1) := by decide +kernel
theorem dJ13_bitCount_95d88_55 : decode cJ13_bitCount_95d88 55 = .ok (.lload_n 0, 1) := by decide +kernel
theorem dJ13_bitCount_95d88_56 : decode cJ13_bitCount_95d88 56 = .ok (.l2i, 1) := by decide +kernel
theorem dJ13_bitCount_95d88_57 : decode cJ13_bitCount_95d88 57 = .ok (.bipush 127, 2) := by decide +kernel
theorem dJ13_bitCount_95d88_59 : decode cJ13_bitCount_95d88 59 = .ok (.iand, 1) := by decide +kernel
theorem dJ13_bitCount_95d88_60 : decode cJ13_bitCount_95d88 60 = .ok (.ireturn, 1) := by decide +kernel
theorem dJ9_max_7cf53_0 : decode cJ9_max_7cf53 0 = .ok (.iload_n 0, 1) := by decide +kernel
theorem dJ9_max_7cf53_1 : decode cJ9_max_7cf53 1 = .ok (.iload_n 1, 1) := by decide +kernel
theorem dJ9_max_7cf53_2 : decode cJ9_max_7cf53 2 = .ok (.if_icmp .lt 7, 3) := by decide +kernel
theorem dJ9_max_7cf53_5 : decode cJ9_max_7cf53 5 = .ok (.iload_n 0, 1) := by decide +kernel
theorem dJ9_max_7cf53_6 : decode cJ9_max_7cf53 6 = .ok (.goto 4, 3) := by decide +kernel
theorem dJ9_max_7cf53_9 : decode cJ9_max_7cf53 9 = .ok (.iload_n 1, 1) := by decide +kernel
theorem dJ9_max_7cf53_10 : decode cJ9_max_7cf53 10 = .ok (.ireturn, 1) := by decide +kernel
theorem dJ9_min_7cf53_0 : decode cJ9_min_7cf53 0 = .ok (.iload_n 0, 1) := by decide +kernel
theorem dJ9_min_7cf53_1 : decode cJ9_min_7cf53 1 = .ok (.iload_n 1, 1) := by decide +kernel
theorem dJ9_min_7cf53_2 : decode cJ9_min_7cf53 2 = .ok (.if_icmp .gt 7, 3) := by decide +kernel
theorem dJ9_min_7cf53_5 : decode cJ9_min_7cf53 5 = .ok (.iload_n 0, 1) := by decide +kernel
theorem dJ9_min_7cf53_6 : decode cJ9_min_7cf53 6 = .ok (.goto 4, 3) := by decide +kernel
theorem dJ9_min_7cf53_9 : decode cJ9_min_7cf53 9 = .ok (.iload_n 1, 1) := by decide +kernel
theorem dJ9_min_7cf53_10 : decode cJ9_min_7cf53 10 = .ok (.ireturn, 1) := by decide +kernel
theorem dJ7_fill_53178_0 : decode cJ7_fill_53178 0 = .ok (.iconst 0, 1) := by decide +kernel
theorem dJ7_fill_53178_1 : decode cJ7_fill_53178 1 = .ok (.istore_n 2, 1) := by decide +kernel
theorem dJ7_fill_53178_2 : decode cJ7_fill_53178 2 = .ok (.aload_n 0, 1) := by decide +kernel
theorem dJ7_fill_53178_3 : decode cJ7_fill_53178 3 = .ok (.arraylength, 1) := by decide +kernel
theorem dJ7_fill_53178_4 : decode cJ7_fill_53178 4 = .ok (.istore_n 3, 1) := by decide +kernel
theorem dJ7_fill_53178_5 : decode cJ7_fill_53178 5 = .ok (.iload_n 2, 1) := by decide +kernel
theorem dJ7_fill_53178_6 : decode cJ7_fill_53178 6 = .ok (.iload_n 3, 1) := by decide +kernel
theorem dJ7_fill_53178_7 : decode cJ7_fill_53178 7 = .ok (.if_icmp .ge 13, 3) := by decide +kernel
theorem dJ7_fill_53178_10 : decode cJ7_fill_53178 10 = .ok (.aload_n 0, 1) := by decide +kernel
theorem dJ7_fill_53178_11 : decode cJ7_fill_53178 11 = .ok (.iload_n 2, 1) := by decide +kernel
theorem dJ7_fill_53178_12 : decode cJ7_fill_53178 12 = .ok (.iload_n 1, 1) := by decide +kernel
theorem dJ7_fill_53178_13 : decode cJ7_fill_53178 13 = .ok (.iastore, 1) := by decide +kernel
theorem dJ7_fill_53178_14 : decode cJ7_fill_53178 14 = .ok (.iinc 2 1, 3) := by decide +kernel
theorem dJ7_fill_53178_17 : decode cJ7_fill_53178 17 = .ok (.goto (-12), 3) := by decide +kernel
theorem dJ7_fill_53178_20 : decode cJ7_fill_53178 20 = .ok (.return_, 1) := by decide +kernel
