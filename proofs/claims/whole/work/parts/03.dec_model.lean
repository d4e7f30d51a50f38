theorem dX8_init_0 : decode cX8_init 0 = .ok (.aload_n 0, 1) := by decide +kernel
theorem dX8_init_1 : decode cX8_init 1 = .ok (.invokespecial 1, 3) := by decide +kernel
theorem dX8_init_4 : decode cX8_init 4 = .ok (.aload_n 0, 1) := by decide +kernel
theorem dX8_init_5 : decode cX8_init 5 = .ok (.sipush 1055, 3) := by decide +kernel
theorem dX8_init_8 : decode cX8_init 8 = .ok (.newarray .int, 2) := by decide +kernel
theorem dX8_init_10 : decode cX8_init 10 = .ok (.putfield 7, 3) := by decide +kernel
theorem dX8_init_13 : decode cX8_init 13 = .ok (.aload_n 0, 1) := by decide +kernel
theorem dX8_init_14 : decode cX8_init 14 = .ok (.sipush 1055, 3) := by decide +kernel
theorem dX8_init_17 : decode cX8_init 17 = .ok (.newarray .int, 2) := by decide +kernel
theorem dX8_init_19 : decode cX8_init 19 = .ok (.putfield 13, 3) := by decide +kernel
theorem dX8_init_22 : decode cX8_init 22 = .ok (.aload_n 0, 1) := by decide +kernel
theorem dX8_init_23 : decode cX8_init 23 = .ok (.sipush 4220, 3) := by decide +kernel
theorem dX8_init_26 : decode cX8_init 26 = .ok (.newarray .int, 2) := by decide +kernel
theorem dX8_init_28 : decode cX8_init 28 = .ok (.putfield 16, 3) := by decide +kernel
theorem dX8_init_31 : decode cX8_init 31 = .ok (.aload_n 0, 1) := by decide +kernel
theorem dX8_init_32 : decode cX8_init 32 = .ok (.bipush 80, 2) := by decide +kernel
theorem dX8_init_34 : decode cX8_init 34 = .ok (.newarray .int, 2) := by decide +kernel
theorem dX8_init_36 : decode cX8_init 36 = .ok (.putfield 19, 3) := by decide +kernel
theorem dX8_init_39 : decode cX8_init 39 = .ok (.aload_n 0, 1) := by decide +kernel
theorem dX8_init_40 : decode cX8_init 40 = .ok (.getfield 7, 3) := by decide +kernel
theorem dX8_init_43 : decode cX8_init 43 = .ok (.iconst 0, 1) := by decide +kernel
theorem dX8_init_44 : decode cX8_init 44 = .ok (.iconst 2, 1) := by decide +kernel
theorem dX8_init_45 : decode cX8_init 45 = .ok (.iastore, 1) := by decide +kernel
theorem dX8_init_46 : decode cX8_init 46 = .ok (.aload_n 0, 1) := by decide +kernel
theorem dX8_init_47 : decode cX8_init 47 = .ok (.getfield 7, 3) := by decide +kernel
theorem dX8_init_50 : decode cX8_init 50 = .ok (.iconst 2, 1) := by decide +kernel
theorem dX8_init_51 : decode cX8_init 51 = .ok (.sipush 5000, 3) := by decide +kernel
theorem dX8_init_54 : decode cX8_init 54 = .ok (.iastore, 1) := by decide +kernel
theorem dX8_init_55 : decode cX8_init 55 = .ok (.aload_n 0, 1) := by decide +kernel
theorem dX8_init_56 : decode cX8_init 56 = .ok (.getfield 7, 3) := by decide +kernel
theorem dX8_init_59 : decode cX8_init 59 = .ok (.iconst 3, 1) := by decide +kernel
theorem dX8_init_60 : decode cX8_init 60 = .ok (.bipush 30, 2) := by decide +kernel
theorem dX8_init_62 : decode cX8_init 62 = .ok (.iastore, 1) := by decide +kernel
theorem dX8_init_63 : decode cX8_init 63 = .ok (.return_, 1) := by decide +kernel
theorem dX8_in_0 : decode cX8_in 0 = .ok (.iload_n 0, 1) := by decide +kernel
theorem dX8_in_1 : decode cX8_in 1 = .ok (.iload_n 1, 1) := by decide +kernel
theorem dX8_in_2 : decode cX8_in 2 = .ok (.if_icmp .lt 12, 3) := by decide +kernel
theorem dX8_in_5 : decode cX8_in 5 = .ok (.iload_n 0, 1) := by decide +kernel
theorem dX8_in_6 : decode cX8_in 6 = .ok (.iload_n 2, 1) := by decide +kernel
theorem dX8_in_7 : decode cX8_in 7 = .ok (.if_icmp .gt 7, 3) := by decide +kernel
theorem dX8_in_10 : decode cX8_in 10 = .ok (.iconst 1, 1) := by decide +kernel
theorem dX8_in_11 : decode cX8_in 11 = .ok (.goto 4, 3) := by decide +kernel
theorem dX8_in_14 : decode cX8_in 14 = .ok (.iconst 0, 1) := by decide +kernel
theorem dX8_in_15 : decode cX8_in 15 = .ok (.ireturn, 1) := by decide +kernel
theorem dX8_isLocker_0 : decode cX8_isLocker 0 = .ok (.iload_n 1, 1) := by decide +kernel
theorem dX8_isLocker_1 : decode cX8_isLocker 1 = .ok (.iconst 0, 1) := by decide +kernel
theorem dX8_isLocker_2 : decode cX8_isLocker 2 = .ok (.aload_n 0, 1) := by decide +kernel
theorem dX8_isLocker_3 : decode cX8_isLocker 3 = .ok (.getfield 7, 3) := by decide +kernel
theorem dX8_isLocker_6 : decode cX8_isLocker 6 = .ok (.iconst 4, 1) := by decide +kernel
theorem dX8_isLocker_7 : decode cX8_isLocker 7 = .ok (.iaload, 1) := by decide +kernel
theorem dX8_isLocker_8 : decode cX8_isLocker 8 = .ok (.iconst 1, 1) := by decide +kernel
theorem dX8_isLocker_9 : decode cX8_isLocker 9 = .ok (.isub, 1) := by decide +kernel
theorem dX8_isLocker_10 : decode cX8_isLocker 10 = .ok (.invokestatic 22, 3) := by decide +kernel
theorem dX8_isLocker_13 : decode cX8_isLocker 13 = .ok (.ireturn, 1) := by decide +kernel
theorem dX8_isGood_0 : decode cX8_isGood 0 = .ok (.iload_n 1, 1) := by decide +kernel
theorem dX8_isGood_1 : decode cX8_isGood 1 = .ok (.iconst 0, 1) := by decide +kernel
theorem dX8_isGood_2 : decode cX8_isGood 2 = .ok (.aload_n 0, 1) := by decide +kernel
theorem dX8_isGood_3 : decode cX8_isGood 3 = .ok (.getfield 7, 3) := by decide +kernel
theorem dX8_isGood_6 : decode cX8_isGood 6 = .ok (.iconst 5, 1) := by decide +kernel
theorem dX8_isGood_7 : decode cX8_isGood 7 = .ok (.iaload, 1) := by decide +kernel
theorem dX8_isGood_8 : decode cX8_isGood 8 = .ok (.iconst 1, 1) := by decide +kernel
theorem dX8_isGood_9 : decode cX8_isGood 9 = .ok (.isub, 1) := by decide +kernel
theorem dX8_isGood_10 : decode cX8_isGood 10 = .ok (.invokestatic 22, 3) := by decide +kernel
theorem dX8_isGood_13 : decode cX8_isGood 13 = .ok (.ireturn, 1) := by decide +kernel
theorem dX8_copy_0 : decode cX8_copy 0 = .ok (.iconst 0, 1) := by decide +kernel
theorem dX8_copy_1 : decode cX8_copy 1 = .ok (.istore_n 1, 1) := by decide +kernel
theorem dX8_copy_2 : decode cX8_copy 2 = .ok (.iload_n 1, 1) := by decide +kernel
theorem dX8_copy_3 : decode cX8_copy 3 = .ok (.sipush 1055, 3) := by decide +kernel
theorem dX8_copy_6 : decode cX8_copy 6 = .ok (.if_icmp .ge 21, 3) := by decide +kernel
theorem dX8_copy_9 : decode cX8_copy 9 = .ok (.aload_n 0, 1) := by decide +kernel
theorem dX8_copy_10 : decode cX8_copy 10 = .ok (.getfield 13, 3) := by decide +kernel
theorem dX8_copy_13 : decode cX8_copy 13 = .ok (.iload_n 1, 1) := by decide +kernel
theorem dX8_copy_14 : decode cX8_copy 14 = .ok (.aload_n 0, 1) := by decide +kernel
theorem dX8_copy_15 : decode cX8_copy 15 = .ok (.getfield 7, 3) := by decide +kernel
theorem dX8_copy_18 : decode cX8_copy 18 = .ok (.iload_n 1, 1) := by decide +kernel
theorem dX8_copy_19 : decode cX8_copy 19 = .ok (.iaload, 1) := by decide +kernel
theorem dX8_copy_20 : decode cX8_copy 20 = .ok (.iastore, 1) := by decide +kernel
theorem dX8_copy_21 : decode cX8_copy 21 = .ok (.iinc 1 1, 3) := by decide +kernel
theorem dX8_copy_24 : decode cX8_copy 24 = .ok (.goto (-22), 3) := by decide +kernel
theorem dX8_copy_27 : decode cX8_copy 27 = .ok (.return_, 1) := by decide +kernel
theorem dX8_back_0 : decode cX8_back 0 = .ok (.iconst 0, 1) := by decide +kernel
theorem dX8_back_1 : decode cX8_back 1 = .ok (.istore_n 1, 1) := by decide +kernel
theorem dX8_back_2 : decode cX8_back 2 = .ok (.iload_n 1, 1) := by decide +kernel
theorem dX8_back_3 : decode cX8_back 3 = .ok (.sipush 1055, 3) := by decide +kernel
theorem dX8_back_6 : decode cX8_back 6 = .ok (.if_icmp .ge 21, 3) := by decide +kernel
theorem dX8_back_9 : decode cX8_back 9 = .ok (.aload_n 0, 1) := by decide +kernel
theorem dX8_back_10 : decode cX8_back 10 = .ok (.getfield 7, 3) := by decide +kernel
theorem dX8_back_13 : decode cX8_back 13 = .ok (.iload_n 1, 1) := by decide +kernel
theorem dX8_back_14 : decode cX8_back 14 = .ok (.aload_n 0, 1) := by decide +kernel
theorem dX8_back_15 : decode cX8_back 15 = .ok (.getfield 13, 3) := by decide +kernel
theorem dX8_back_18 : decode cX8_back 18 = .ok (.iload_n 1, 1) := by decide +kernel
theorem dX8_back_19 : decode cX8_back 19 = .ok (.iaload, 1) := by decide +kernel
theorem dX8_back_20 : decode cX8_back 20 = .ok (.iastore, 1) := by decide +kernel
theorem dX8_back_21 : decode cX8_back 21 = .ok (.iinc 1 1, 3) := by decide +kernel
theorem dX8_back_24 : decode cX8_back 24 = .ok (.goto (-22), 3) := by decide +kernel
theorem dX8_back_27 : decode cX8_back 27 = .ok (.return_, 1) := by decide +kernel
theorem dX8_recorded_0 : decode cX8_recorded 0 = .ok (.iload_n 1, 1) := by decide +kernel
theorem dX8_recorded_1 : decode cX8_recorded 1 = .ok (.ifCond .lt 73, 3) := by decide +kernel
theorem dX8_recorded_4 : decode cX8_recorded 4 = .ok (.iconst 0, 1) := by decide +kernel
theorem dX8_recorded_5 : decode cX8_recorded 5 = .ok (.istore_n 2, 1) := by decide +kernel
theorem dX8_recorded_6 : decode cX8_recorded 6 = .ok (.iload_n 2, 1) := by decide +kernel
theorem dX8_recorded_7 : decode cX8_recorded 7 = .ok (.sipush 1055, 3) := by decide +kernel
theorem dX8_recorded_10 : decode cX8_recorded 10 = .ok (.if_icmp .ge 30, 3) := by decide +kernel
theorem dX8_recorded_13 : decode cX8_recorded 13 = .ok (.aload_n 0, 1) := by decide +kernel
theorem dX8_recorded_14 : decode cX8_recorded 14 = .ok (.getfield 16, 3) := by decide +kernel
theorem dX8_recorded_17 : decode cX8_recorded 17 = .ok (.sipush 1055, 3) := by decide +kernel
theorem dX8_recorded_20 : decode cX8_recorded 20 = .ok (.aload_n 0, 1) := by decide +kernel
theorem dX8_recorded_21 : decode cX8_recorded 21 = .ok (.getfield 26, 3) := by decide +kernel
theorem dX8_recorded_24 : decode cX8_recorded 24 = .ok (.imul, 1) := by decide +kernel
theorem dX8_recorded_25 : decode cX8_recorded 25 = .ok (.iload_n 2, 1) := by decide +kernel
theorem dX8_recorded_26 : decode cX8_recorded 26 = .ok (.iadd, 1) := by decide +kernel
theorem dX8_recorded_27 : decode cX8_recorded 27 = .ok (.aload_n 0, 1) := by decide +kernel
theorem dX8_recorded_28 : decode cX8_recorded 28 = .ok (.getfield 13, 3) := by decide +kernel
theorem dX8_recorded_31 : decode cX8_recorded 31 = .ok (.iload_n 2, 1) := by decide +kernel
theorem dX8_recorded_32 : decode cX8_recorded 32 = .ok (.iaload, 1) := by decide +kernel
theorem dX8_recorded_33 : decode cX8_recorded 33 = .ok (.iastore, 1) := by decide +kernel
theorem dX8_recorded_34 : decode cX8_recorded 34 = .ok (.iinc 2 1, 3) := by decide +kernel
theorem dX8_recorded_37 : decode cX8_recorded 37 = .ok (.goto (-31), 3) := by decide +kernel
theorem dX8_recorded_40 : decode cX8_recorded 40 = .ok (.aload_n 0, 1) := by decide +kernel
theorem dX8_recorded_41 : decode cX8_recorded 41 = .ok (.aload_n 0, 1) := by decide +kernel
theorem dX8_recorded_42 : decode cX8_recorded 42 = .ok (.getfield 26, 3) := by decide +kernel
theorem dX8_recorded_45 : decode cX8_recorded 45 = .ok (.iconst 1, 1) := by decide +kernel
theorem dX8_recorded_46 : decode cX8_recorded 46 = .ok (.iadd, 1) := by decide +kernel
theorem dX8_recorded_47 : decode cX8_recorded 47 = .ok (.iconst 4, 1) := by decide +kernel
theorem dX8_recorded_48 : decode cX8_recorded 48 = .ok (.irem, 1) := by decide +kernel
theorem dX8_recorded_49 : decode cX8_recorded 49 = .ok (.putfield 26, 3) := by decide +kernel
theorem dX8_recorded_52 : decode cX8_recorded 52 = .ok (.aload_n 0, 1) := by decide +kernel
theorem dX8_recorded_53 : decode cX8_recorded 53 = .ok (.aload_n 0, 1) := by decide +kernel
theorem dX8_recorded_54 : decode cX8_recorded 54 = .ok (.getfield 30, 3) := by decide +kernel
theorem dX8_recorded_57 : decode cX8_recorded 57 = .ok (.iconst 4, 1) := by decide +kernel
theorem dX8_recorded_58 : decode cX8_recorded 58 = .ok (.if_icmp .ge 12, 3) := by decide +kernel
theorem dX8_recorded_61 : decode cX8_recorded 61 = .ok (.aload_n 0, 1) := by decide +kernel
theorem dX8_recorded_62 : decode cX8_recorded 62 = .ok (.getfield 30, 3) := by decide +kernel
theorem dX8_recorded_65 : decode cX8_recorded 65 = .ok (.iconst 1, 1) := by decide +kernel
theorem dX8_recorded_66 : decode cX8_recorded 66 = .ok (.iadd, 1) := by decide +kernel
theorem dX8_recorded_67 : decode cX8_recorded 67 = .ok (.goto 4, 3) := by decide +kernel
theorem dX8_recorded_70 : decode cX8_recorded 70 = .ok (.iconst 4, 1) := by decide +kernel
theorem dX8_recorded_71 : decode cX8_recorded 71 = .ok (.putfield 30, 3) := by decide +kernel
theorem dX8_recorded_74 : decode cX8_recorded 74 = .ok (.iload_n 1, 1) := by decide +kernel
theorem dX8_recorded_75 : decode cX8_recorded 75 = .ok (.ireturn, 1) := by decide +kernel
theorem dX8_undo_0 : decode cX8_undo 0 = .ok (.aload_n 0, 1) := by decide +kernel
theorem dX8_undo_1 : decode cX8_undo 1 = .ok (.getfield 30, 3) := by decide +kernel
theorem dX8_undo_4 : decode cX8_undo 4 = .ok (.ifCond .ne 6, 3) := by decide +kernel
theorem dX8_undo_7 : decode cX8_undo 7 = .ok (.bipush (-2), 2) := by decide +kernel
theorem dX8_undo_9 : decode cX8_undo 9 = .ok (.ireturn, 1) := by decide +kernel
theorem dX8_undo_10 : decode cX8_undo 10 = .ok (.aload_n 0, 1) := by decide +kernel
theorem dX8_undo_11 : decode cX8_undo 11 = .ok (.aload_n 0, 1) := by decide +kernel
theorem dX8_undo_12 : decode cX8_undo 12 = .ok (.getfield 26, 3) := by decide +kernel
theorem dX8_undo_15 : decode cX8_undo 15 = .ok (.iconst 4, 1) := by decide +kernel
theorem dX8_undo_16 : decode cX8_undo 16 = .ok (.iadd, 1) := by decide +kernel
theorem dX8_undo_17 : decode cX8_undo 17 = .ok (.iconst 1, 1) := by decide +kernel
theorem dX8_undo_18 : decode cX8_undo 18 = .ok (.isub, 1) := by decide +kernel
theorem dX8_undo_19 : decode cX8_undo 19 = .ok (.iconst 4, 1) := by decide +kernel
theorem dX8_undo_20 : decode cX8_undo 20 = .ok (.irem, 1) := by decide +kernel
theorem dX8_undo_21 : decode cX8_undo 21 = .ok (.putfield 26, 3) := by decide +kernel
theorem dX8_undo_24 : decode cX8_undo 24 = .ok (.aload_n 0, 1) := by decide +kernel
theorem dX8_undo_25 : decode cX8_undo 25 = .ok (.dup, 1) := by decide +kernel
theorem dX8_undo_26 : decode cX8_undo 26 = .ok (.getfield 30, 3) := by decide +kernel
theorem dX8_undo_29 : decode cX8_undo 29 = .ok (.iconst 1, 1) := by decide +kernel
theorem dX8_undo_30 : decode cX8_undo 30 = .ok (.isub, 1) := by decide +kernel
theorem dX8_undo_31 : decode cX8_undo 31 = .ok (.putfield 30, 3) := by decide +kernel
theorem dX8_undo_34 : decode cX8_undo 34 = .ok (.iconst 0, 1) := by decide +kernel
theorem dX8_undo_35 : decode cX8_undo 35 = .ok (.istore_n 1, 1) := by decide +kernel
theorem dX8_undo_36 : decode cX8_undo 36 = .ok (.iload_n 1, 1) := by decide +kernel
theorem dX8_undo_37 : decode cX8_undo 37 = .ok (.sipush 1055, 3) := by decide +kernel
theorem dX8_undo_40 : decode cX8_undo 40 = .ok (.if_icmp .ge 30, 3) := by decide +kernel
theorem dX8_undo_43 : decode cX8_undo 43 = .ok (.aload_n 0, 1) := by decide +kernel
theorem dX8_undo_44 : decode cX8_undo 44 = .ok (.getfield 7, 3) := by decide +kernel
theorem dX8_undo_47 : decode cX8_undo 47 = .ok (.iload_n 1, 1) := by decide +kernel
theorem dX8_undo_48 : decode cX8_undo 48 = .ok (.aload_n 0, 1) := by decide +kernel
theorem dX8_undo_49 : decode cX8_undo 49 = .ok (.getfield 16, 3) := by decide +kernel
theorem dX8_undo_52 : decode cX8_undo 52 = .ok (.sipush 1055, 3) := by decide +kernel
theorem dX8_undo_55 : decode cX8_undo 55 = .ok (.aload_n 0, 1) := by decide +kernel
theorem dX8_undo_56 : decode cX8_undo 56 = .ok (.getfield 26, 3) := by decide +kernel
theorem dX8_undo_59 : decode cX8_undo 59 = .ok (.imul, 1) := by decide +kernel
theorem dX8_undo_60 : decode cX8_undo 60 = .ok (.iload_n 1, 1) := by decide +kernel
theorem dX8_undo_61 : decode cX8_undo 61 = .ok (.iadd, 1) := by decide +kernel
theorem dX8_undo_62 : decode cX8_undo 62 = .ok (.iaload, 1) := by decide +kernel
theorem dX8_undo_63 : decode cX8_undo 63 = .ok (.iastore, 1) := by decide +kernel
theorem dX8_undo_64 : decode cX8_undo 64 = .ok (.iinc 1 1, 3) := by decide +kernel
theorem dX8_undo_67 : decode cX8_undo 67 = .ok (.goto (-31), 3) := by decide +kernel
theorem dX8_undo_70 : decode cX8_undo 70 = .ok (.aload_n 0, 1) := by decide +kernel
theorem dX8_undo_71 : decode cX8_undo 71 = .ok (.getfield 30, 3) := by decide +kernel
theorem dX8_undo_74 : decode cX8_undo 74 = .ok (.ireturn, 1) := by decide +kernel
theorem dX8_hasSeals_0 : decode cX8_hasSeals 0 = .ok (.aload_n 0, 1) := by decide +kernel
theorem dX8_hasSeals_1 : decode cX8_hasSeals 1 = .ok (.getfield 7, 3) := by decide +kernel
theorem dX8_hasSeals_4 : decode cX8_hasSeals 4 = .ok (.bipush 7, 2) := by decide +kernel
theorem dX8_hasSeals_6 : decode cX8_hasSeals 6 = .ok (.iaload, 1) := by decide +kernel
theorem dX8_hasSeals_7 : decode cX8_hasSeals 7 = .ok (.iload_n 1, 1) := by decide +kernel
theorem dX8_hasSeals_8 : decode cX8_hasSeals 8 = .ok (.iadd, 1) := by decide +kernel
theorem dX8_hasSeals_9 : decode cX8_hasSeals 9 = .ok (.sipush 200, 3) := by decide +kernel
theorem dX8_hasSeals_12 : decode cX8_hasSeals 12 = .ok (.if_icmp .gt 7, 3) := by decide +kernel
theorem dX8_hasSeals_15 : decode cX8_hasSeals 15 = .ok (.iconst 1, 1) := by decide +kernel
theorem dX8_hasSeals_16 : decode cX8_hasSeals 16 = .ok (.goto 4, 3) := by decide +kernel
theorem dX8_hasSeals_19 : decode cX8_hasSeals 19 = .ok (.iconst 0, 1) := by decide +kernel
theorem dX8_hasSeals_20 : decode cX8_hasSeals 20 = .ok (.ireturn, 1) := by decide +kernel
theorem dX8_seals_0 : decode cX8_seals 0 = .ok (.aload_n 0, 1) := by decide +kernel
theorem dX8_seals_1 : decode cX8_seals 1 = .ok (.getfield 7, 3) := by decide +kernel
theorem dX8_seals_4 : decode cX8_seals 4 = .ok (.bipush 7, 2) := by decide +kernel
theorem dX8_seals_6 : decode cX8_seals 6 = .ok (.dup2, 1) := by decide +kernel
theorem dX8_seals_7 : decode cX8_seals 7 = .ok (.iaload, 1) := by decide +kernel
theorem dX8_seals_8 : decode cX8_seals 8 = .ok (.iconst 1, 1) := by decide +kernel
theorem dX8_seals_9 : decode cX8_seals 9 = .ok (.iadd, 1) := by decide +kernel
theorem dX8_seals_10 : decode cX8_seals 10 = .ok (.iastore, 1) := by decide +kernel
theorem dX8_seals_11 : decode cX8_seals 11 = .ok (.aload_n 0, 1) := by decide +kernel
theorem dX8_seals_12 : decode cX8_seals 12 = .ok (.getfield 7, 3) := by decide +kernel
theorem dX8_seals_15 : decode cX8_seals 15 = .ok (.bipush 7, 2) := by decide +kernel
theorem dX8_seals_17 : decode cX8_seals 17 = .ok (.iaload, 1) := by decide +kernel
theorem dX8_seals_18 : decode cX8_seals 18 = .ok (.istore_n 2, 1) := by decide +kernel
theorem dX8_seals_19 : decode cX8_seals 19 = .ok (.aload_n 0, 1) := by decide +kernel
theorem dX8_seals_20 : decode cX8_seals 20 = .ok (.getfield 7, 3) := by decide +kernel
theorem dX8_seals_23 : decode cX8_seals 23 = .ok (.bipush 14, 2) := by decide +kernel
theorem dX8_seals_25 : decode cX8_seals 25 = .ok (.iload_n 1, 1) := by decide +kernel
theorem dX8_seals_26 : decode cX8_seals 26 = .ok (.iadd, 1) := by decide +kernel
theorem dX8_seals_27 : decode cX8_seals 27 = .ok (.iconst 1, 1) := by decide +kernel
theorem dX8_seals_28 : decode cX8_seals 28 = .ok (.iastore, 1) := by decide +kernel
theorem dX8_seals_29 : decode cX8_seals 29 = .ok (.aload_n 0, 1) := by decide +kernel
theorem dX8_seals_30 : decode cX8_seals 30 = .ok (.getfield 7, 3) := by decide +kernel
theorem dX8_seals_33 : decode cX8_seals 33 = .ok (.bipush 19, 2) := by decide +kernel
theorem dX8_seals_35 : decode cX8_seals 35 = .ok (.iload_n 1, 1) := by decide +kernel
theorem dX8_seals_36 : decode cX8_seals 36 = .ok (.iadd, 1) := by decide +kernel
theorem dX8_seals_37 : decode cX8_seals 37 = .ok (.iload_n 2, 1) := by decide +kernel
theorem dX8_seals_38 : decode cX8_seals 38 = .ok (.iastore, 1) := by decide +kernel
theorem dX8_seals_39 : decode cX8_seals 39 = .ok (.aload_n 0, 1) := by decide +kernel
theorem dX8_seals_40 : decode cX8_seals 40 = .ok (.getfield 7, 3) := by decide +kernel
theorem dX8_seals_43 : decode cX8_seals 43 = .ok (.sipush 452, 3) := by decide +kernel
theorem dX8_seals_46 : decode cX8_seals 46 = .ok (.iload_n 2, 1) := by decide +kernel
theorem dX8_seals_47 : decode cX8_seals 47 = .ok (.iadd, 1) := by decide +kernel
theorem dX8_seals_48 : decode cX8_seals 48 = .ok (.iload_n 1, 1) := by decide +kernel
theorem dX8_seals_49 : decode cX8_seals 49 = .ok (.iastore, 1) := by decide +kernel
theorem dX8_seals_50 : decode cX8_seals 50 = .ok (.aload_n 0, 1) := by decide +kernel
theorem dX8_seals_51 : decode cX8_seals 51 = .ok (.getfield 7, 3) := by decide +kernel
theorem dX8_seals_54 : decode cX8_seals 54 = .ok (.sipush 653, 3) := by decide +kernel
theorem dX8_seals_57 : decode cX8_seals 57 = .ok (.iload_n 2, 1) := by decide +kernel
theorem dX8_seals_58 : decode cX8_seals 58 = .ok (.iadd, 1) := by decide +kernel
theorem dX8_seals_59 : decode cX8_seals 59 = .ok (.aload_n 0, 1) := by decide +kernel
theorem dX8_seals_60 : decode cX8_seals 60 = .ok (.getfield 7, 3) := by decide +kernel
theorem dX8_seals_63 : decode cX8_seals 63 = .ok (.iconst 1, 1) := by decide +kernel
theorem dX8_seals_64 : decode cX8_seals 64 = .ok (.iaload, 1) := by decide +kernel
theorem dX8_seals_65 : decode cX8_seals 65 = .ok (.iastore, 1) := by decide +kernel
theorem dX8_seals_66 : decode cX8_seals 66 = .ok (.aload_n 0, 1) := by decide +kernel
theorem dX8_seals_67 : decode cX8_seals 67 = .ok (.getfield 7, 3) := by decide +kernel
theorem dX8_seals_70 : decode cX8_seals 70 = .ok (.sipush 854, 3) := by decide +kernel
theorem dX8_seals_73 : decode cX8_seals 73 = .ok (.iload_n 2, 1) := by decide +kernel
theorem dX8_seals_74 : decode cX8_seals 74 = .ok (.iadd, 1) := by decide +kernel
theorem dX8_seals_75 : decode cX8_seals 75 = .ok (.iconst 0, 1) := by decide +kernel
theorem dX8_seals_76 : decode cX8_seals 76 = .ok (.iastore, 1) := by decide +kernel
theorem dX8_seals_77 : decode cX8_seals 77 = .ok (.return_, 1) := by decide +kernel
theorem dX8_takesOff_0 : decode cX8_takesOff 0 = .ok (.aload_n 0, 1) := by decide +kernel
theorem dX8_takesOff_1 : decode cX8_takesOff 1 = .ok (.getfield 7, 3) := by decide +kernel
theorem dX8_takesOff_4 : decode cX8_takesOff 4 = .ok (.bipush 14, 2) := by decide +kernel
theorem dX8_takesOff_6 : decode cX8_takesOff 6 = .ok (.iload_n 1, 1) := by decide +kernel
theorem dX8_takesOff_7 : decode cX8_takesOff 7 = .ok (.iadd, 1) := by decide +kernel
theorem dX8_takesOff_8 : decode cX8_takesOff 8 = .ok (.iaload, 1) := by decide +kernel
theorem dX8_takesOff_9 : decode cX8_takesOff 9 = .ok (.iconst 1, 1) := by decide +kernel
theorem dX8_takesOff_10 : decode cX8_takesOff 10 = .ok (.if_icmp .ne 32, 3) := by decide +kernel
theorem dX8_takesOff_13 : decode cX8_takesOff 13 = .ok (.aload_n 0, 1) := by decide +kernel
theorem dX8_takesOff_14 : decode cX8_takesOff 14 = .ok (.getfield 7, 3) := by decide +kernel
theorem dX8_takesOff_17 : decode cX8_takesOff 17 = .ok (.sipush 854, 3) := by decide +kernel
theorem dX8_takesOff_20 : decode cX8_takesOff 20 = .ok (.aload_n 0, 1) := by decide +kernel
theorem dX8_takesOff_21 : decode cX8_takesOff 21 = .ok (.getfield 7, 3) := by decide +kernel
theorem dX8_takesOff_24 : decode cX8_takesOff 24 = .ok (.bipush 19, 2) := by decide +kernel
theorem dX8_takesOff_26 : decode cX8_takesOff 26 = .ok (.iload_n 1, 1) := by decide +kernel
theorem dX8_takesOff_27 : decode cX8_takesOff 27 = .ok (.iadd, 1) := by decide +kernel
theorem dX8_takesOff_28 : decode cX8_takesOff 28 = .ok (.iaload, 1) := by decide +kernel
theorem dX8_takesOff_29 : decode cX8_takesOff 29 = .ok (.iadd, 1) := by decide +kernel
theorem dX8_takesOff_30 : decode cX8_takesOff 30 = .ok (.iload_n 2, 1) := by decide +kernel
theorem dX8_takesOff_31 : decode cX8_takesOff 31 = .ok (.iastore, 1) := by decide +kernel
theorem dX8_takesOff_32 : decode cX8_takesOff 32 = .ok (.aload_n 0, 1) := by decide +kernel
theorem dX8_takesOff_33 : decode cX8_takesOff 33 = .ok (.getfield 7, 3) := by decide +kernel
theorem dX8_takesOff_36 : decode cX8_takesOff 36 = .ok (.bipush 14, 2) := by decide +kernel
theorem dX8_takesOff_38 : decode cX8_takesOff 38 = .ok (.iload_n 1, 1) := by decide +kernel
theorem dX8_takesOff_39 : decode cX8_takesOff 39 = .ok (.iadd, 1) := by decide +kernel
theorem dX8_takesOff_40 : decode cX8_takesOff 40 = .ok (.iconst 0, 1) := by decide +kernel
theorem dX8_takesOff_41 : decode cX8_takesOff 41 = .ok (.iastore, 1) := by decide +kernel
theorem dX8_takesOff_42 : decode cX8_takesOff 42 = .ok (.return_, 1) := by decide +kernel
theorem dX8_nextOf_0 : decode cX8_nextOf 0 = .ok (.bipush (-4), 2) := by decide +kernel
theorem dX8_nextOf_2 : decode cX8_nextOf 2 = .ok (.istore_n 3, 1) := by decide +kernel
theorem dX8_nextOf_3 : decode cX8_nextOf 3 = .ok (.aload_n 0, 1) := by decide +kernel
theorem dX8_nextOf_4 : decode cX8_nextOf 4 = .ok (.getfield 7, 3) := by decide +kernel
theorem dX8_nextOf_7 : decode cX8_nextOf 7 = .ok (.bipush 6, 2) := by decide +kernel
theorem dX8_nextOf_9 : decode cX8_nextOf 9 = .ok (.iaload, 1) := by decide +kernel
theorem dX8_nextOf_10 : decode cX8_nextOf 10 = .ok (.iconst 1, 1) := by decide +kernel
theorem dX8_nextOf_11 : decode cX8_nextOf 11 = .ok (.isub, 1) := by decide +kernel
theorem dX8_nextOf_12 : decode cX8_nextOf 12 = .ok (.istore 4, 2) := by decide +kernel
theorem dX8_nextOf_14 : decode cX8_nextOf 14 = .ok (.iload 4, 2) := by decide +kernel
theorem dX8_nextOf_16 : decode cX8_nextOf 16 = .ok (.ifCond .lt 155, 3) := by decide +kernel
theorem dX8_nextOf_19 : decode cX8_nextOf 19 = .ok (.aload_n 0, 1) := by decide +kernel
theorem dX8_nextOf_20 : decode cX8_nextOf 20 = .ok (.getfield 7, 3) := by decide +kernel
theorem dX8_nextOf_23 : decode cX8_nextOf 23 = .ok (.sipush 272, 3) := by decide +kernel
theorem dX8_nextOf_26 : decode cX8_nextOf 26 = .ok (.iload 4, 2) := by decide +kernel
theorem dX8_nextOf_28 : decode cX8_nextOf 28 = .ok (.iadd, 1) := by decide +kernel
theorem dX8_nextOf_29 : decode cX8_nextOf 29 = .ok (.iaload, 1) := by decide +kernel
theorem dX8_nextOf_30 : decode cX8_nextOf 30 = .ok (.ifCond .le 26, 3) := by decide +kernel
theorem dX8_nextOf_33 : decode cX8_nextOf 33 = .ok (.iload_n 1, 1) := by decide +kernel
theorem dX8_nextOf_34 : decode cX8_nextOf 34 = .ok (.ifCond .lt 18, 3) := by decide +kernel
theorem dX8_nextOf_37 : decode cX8_nextOf 37 = .ok (.aload_n 0, 1) := by decide +kernel
theorem dX8_nextOf_38 : decode cX8_nextOf 38 = .ok (.getfield 7, 3) := by decide +kernel
theorem dX8_nextOf_41 : decode cX8_nextOf 41 = .ok (.sipush 152, 3) := by decide +kernel
theorem dX8_nextOf_44 : decode cX8_nextOf 44 = .ok (.iload 4, 2) := by decide +kernel
theorem dX8_nextOf_46 : decode cX8_nextOf 46 = .ok (.iadd, 1) := by decide +kernel
theorem dX8_nextOf_47 : decode cX8_nextOf 47 = .ok (.iaload, 1) := by decide +kernel
theorem dX8_nextOf_48 : decode cX8_nextOf 48 = .ok (.iload_n 1, 1) := by decide +kernel
theorem dX8_nextOf_49 : decode cX8_nextOf 49 = .ok (.if_icmp .ne 7, 3) := by decide +kernel
theorem dX8_nextOf_52 : decode cX8_nextOf 52 = .ok (.iconst 1, 1) := by decide +kernel
theorem dX8_nextOf_53 : decode cX8_nextOf 53 = .ok (.goto 4, 3) := by decide +kernel
theorem dX8_nextOf_56 : decode cX8_nextOf 56 = .ok (.iconst 0, 1) := by decide +kernel
theorem dX8_nextOf_57 : decode cX8_nextOf 57 = .ok (.istore 5, 2) := by decide +kernel
theorem dX8_nextOf_59 : decode cX8_nextOf 59 = .ok (.iload_n 2, 1) := by decide +kernel
theorem dX8_nextOf_60 : decode cX8_nextOf 60 = .ok (.ifCond .lt 57, 3) := by decide +kernel
theorem dX8_nextOf_63 : decode cX8_nextOf 63 = .ok (.aload_n 0, 1) := by decide +kernel
theorem dX8_nextOf_64 : decode cX8_nextOf 64 = .ok (.getfield 7, 3) := by decide +kernel
theorem dX8_nextOf_67 : decode cX8_nextOf 67 = .ok (.sipush 392, 3) := by decide +kernel
theorem dX8_nextOf_70 : decode cX8_nextOf 70 = .ok (.iload 4, 2) := by decide +kernel
theorem dX8_nextOf_72 : decode cX8_nextOf 72 = .ok (.iadd, 1) := by decide +kernel
theorem dX8_nextOf_73 : decode cX8_nextOf 73 = .ok (.iaload, 1) := by decide +kernel
theorem dX8_nextOf_74 : decode cX8_nextOf 74 = .ok (.aload_n 0, 1) := by decide +kernel
theorem dX8_nextOf_75 : decode cX8_nextOf 75 = .ok (.getfield 7, 3) := by decide +kernel
theorem dX8_nextOf_78 : decode cX8_nextOf 78 = .ok (.sipush 392, 3) := by decide +kernel
theorem dX8_nextOf_81 : decode cX8_nextOf 81 = .ok (.iload_n 2, 1) := by decide +kernel
theorem dX8_nextOf_82 : decode cX8_nextOf 82 = .ok (.iadd, 1) := by decide +kernel
theorem dX8_nextOf_83 : decode cX8_nextOf 83 = .ok (.iaload, 1) := by decide +kernel
theorem dX8_nextOf_84 : decode cX8_nextOf 84 = .ok (.if_icmp .gt 33, 3) := by decide +kernel
theorem dX8_nextOf_87 : decode cX8_nextOf 87 = .ok (.aload_n 0, 1) := by decide +kernel
theorem dX8_nextOf_88 : decode cX8_nextOf 88 = .ok (.getfield 7, 3) := by decide +kernel
theorem dX8_nextOf_91 : decode cX8_nextOf 91 = .ok (.sipush 392, 3) := by decide +kernel
theorem dX8_nextOf_94 : decode cX8_nextOf 94 = .ok (.iload 4, 2) := by decide +kernel
theorem dX8_nextOf_96 : decode cX8_nextOf 96 = .ok (.iadd, 1) := by decide +kernel
theorem dX8_nextOf_97 : decode cX8_nextOf 97 = .ok (.iaload, 1) := by decide +kernel
theorem dX8_nextOf_98 : decode cX8_nextOf 98 = .ok (.aload_n 0, 1) := by decide +kernel
theorem dX8_nextOf_99 : decode cX8_nextOf 99 = .ok (.getfield 7, 3) := by decide +kernel
theorem dX8_nextOf_102 : decode cX8_nextOf 102 = .ok (.sipush 392, 3) := by decide +kernel
theorem dX8_nextOf_105 : decode cX8_nextOf 105 = .ok (.iload_n 2, 1) := by decide +kernel
theorem dX8_nextOf_106 : decode cX8_nextOf 106 = .ok (.iadd, 1) := by decide +kernel
theorem dX8_nextOf_107 : decode cX8_nextOf 107 = .ok (.iaload, 1) := by decide +kernel
theorem dX8_nextOf_108 : decode cX8_nextOf 108 = .ok (.if_icmp .ne 13, 3) := by decide +kernel
theorem dX8_nextOf_111 : decode cX8_nextOf 111 = .ok (.iload 4, 2) := by decide +kernel
theorem dX8_nextOf_113 : decode cX8_nextOf 113 = .ok (.iload_n 2, 1) := by decide +kernel
theorem dX8_nextOf_114 : decode cX8_nextOf 114 = .ok (.if_icmp .le 7, 3) := by decide +kernel
theorem dX8_nextOf_117 : decode cX8_nextOf 117 = .ok (.iconst 1, 1) := by decide +kernel
theorem dX8_nextOf_118 : decode cX8_nextOf 118 = .ok (.goto 4, 3) := by decide +kernel
theorem dX8_nextOf_121 : decode cX8_nextOf 121 = .ok (.iconst 0, 1) := by decide +kernel
theorem dX8_nextOf_122 : decode cX8_nextOf 122 = .ok (.istore 6, 2) := by decide +kernel
theorem dX8_nextOf_124 : decode cX8_nextOf 124 = .ok (.iload 5, 2) := by decide +kernel
theorem dX8_nextOf_126 : decode cX8_nextOf 126 = .ok (.ifCond .eq 39, 3) := by decide +kernel
theorem dX8_nextOf_129 : decode cX8_nextOf 129 = .ok (.iload 6, 2) := by decide +kernel
theorem dX8_nextOf_131 : decode cX8_nextOf 131 = .ok (.ifCond .eq 34, 3) := by decide +kernel
theorem dX8_nextOf_134 : decode cX8_nextOf 134 = .ok (.iload_n 3, 1) := by decide +kernel
theorem dX8_nextOf_135 : decode cX8_nextOf 135 = .ok (.ifCond .lt 27, 3) := by decide +kernel
theorem dX8_nextOf_138 : decode cX8_nextOf 138 = .ok (.aload_n 0, 1) := by decide +kernel
theorem dX8_nextOf_139 : decode cX8_nextOf 139 = .ok (.getfield 7, 3) := by decide +kernel
theorem dX8_nextOf_142 : decode cX8_nextOf 142 = .ok (.sipush 392, 3) := by decide +kernel
theorem dX8_nextOf_145 : decode cX8_nextOf 145 = .ok (.iload 4, 2) := by decide +kernel
theorem dX8_nextOf_147 : decode cX8_nextOf 147 = .ok (.iadd, 1) := by decide +kernel
theorem dX8_nextOf_148 : decode cX8_nextOf 148 = .ok (.iaload, 1) := by decide +kernel
theorem dX8_nextOf_149 : decode cX8_nextOf 149 = .ok (.aload_n 0, 1) := by decide +kernel
theorem dX8_nextOf_150 : decode cX8_nextOf 150 = .ok (.getfield 7, 3) := by decide +kernel
theorem dX8_nextOf_153 : decode cX8_nextOf 153 = .ok (.sipush 392, 3) := by decide +kernel
theorem dX8_nextOf_156 : decode cX8_nextOf 156 = .ok (.iload_n 3, 1) := by decide +kernel
theorem dX8_nextOf_157 : decode cX8_nextOf 157 = .ok (.iadd, 1) := by decide +kernel
theorem dX8_nextOf_158 : decode cX8_nextOf 158 = .ok (.iaload, 1) := by decide +kernel
theorem dX8_nextOf_159 : decode cX8_nextOf 159 = .ok (.if_icmp .gt 6, 3) := by decide +kernel
theorem dX8_nextOf_162 : decode cX8_nextOf 162 = .ok (.iload 4, 2) := by decide +kernel
theorem dX8_nextOf_164 : decode cX8_nextOf 164 = .ok (.istore_n 3, 1) := by decide +kernel
theorem dX8_nextOf_165 : decode cX8_nextOf 165 = .ok (.iinc 4 (-1), 3) := by decide +kernel
theorem dX8_nextOf_168 : decode cX8_nextOf 168 = .ok (.goto (-154), 3) := by decide +kernel
theorem dX8_nextOf_171 : decode cX8_nextOf 171 = .ok (.iload_n 3, 1) := by decide +kernel
theorem dX8_nextOf_172 : decode cX8_nextOf 172 = .ok (.ireturn, 1) := by decide +kernel
theorem dX8_least_0 : decode cX8_least 0 = .ok (.iload_n 0, 1) := by decide +kernel
theorem dX8_least_1 : decode cX8_least 1 = .ok (.iload_n 1, 1) := by decide +kernel
theorem dX8_least_2 : decode cX8_least 2 = .ok (.if_icmp .ge 7, 3) := by decide +kernel
theorem dX8_least_5 : decode cX8_least 5 = .ok (.iload_n 0, 1) := by decide +kernel
theorem dX8_least_6 : decode cX8_least 6 = .ok (.goto 4, 3) := by decide +kernel
theorem dX8_least_9 : decode cX8_least 9 = .ok (.iload_n 1, 1) := by decide +kernel
theorem dX8_least_10 : decode cX8_least 10 = .ok (.ireturn, 1) := by decide +kernel
theorem dX8_worthOf_0 : decode cX8_worthOf 0 = .ok (.lconst 0, 1) := by decide +kernel
theorem dX8_worthOf_1 : decode cX8_worthOf 1 = .ok (.lstore_n 3, 1) := by decide +kernel
theorem dX8_worthOf_2 : decode cX8_worthOf 2 = .ok (.iload_n 2, 1) := by decide +kernel
theorem dX8_worthOf_3 : decode cX8_worthOf 3 = .ok (.istore 5, 2) := by decide +kernel
theorem dX8_worthOf_5 : decode cX8_worthOf 5 = .ok (.aload_n 0, 1) := by decide +kernel
theorem dX8_worthOf_6 : decode cX8_worthOf 6 = .ok (.iload_n 1, 1) := by decide +kernel
theorem dX8_worthOf_7 : decode cX8_worthOf 7 = .ok (.iconst (-1), 1) := by decide +kernel
theorem dX8_worthOf_8 : decode cX8_worthOf 8 = .ok (.invokevirtual 33, 3) := by decide +kernel
theorem dX8_worthOf_11 : decode cX8_worthOf 11 = .ok (.istore 6, 2) := by decide +kernel
theorem dX8_worthOf_13 : decode cX8_worthOf 13 = .ok (.iload 6, 2) := by decide +kernel
theorem dX8_worthOf_15 : decode cX8_worthOf 15 = .ok (.ifCond .lt 64, 3) := by decide +kernel
theorem dX8_worthOf_18 : decode cX8_worthOf 18 = .ok (.iload 5, 2) := by decide +kernel
theorem dX8_worthOf_20 : decode cX8_worthOf 20 = .ok (.ifCond .le 59, 3) := by decide +kernel
theorem dX8_worthOf_23 : decode cX8_worthOf 23 = .ok (.iload 5, 2) := by decide +kernel
theorem dX8_worthOf_25 : decode cX8_worthOf 25 = .ok (.aload_n 0, 1) := by decide +kernel
theorem dX8_worthOf_26 : decode cX8_worthOf 26 = .ok (.getfield 7, 3) := by decide +kernel
theorem dX8_worthOf_29 : decode cX8_worthOf 29 = .ok (.sipush 272, 3) := by decide +kernel
theorem dX8_worthOf_32 : decode cX8_worthOf 32 = .ok (.iload 6, 2) := by decide +kernel
theorem dX8_worthOf_34 : decode cX8_worthOf 34 = .ok (.iadd, 1) := by decide +kernel
theorem dX8_worthOf_35 : decode cX8_worthOf 35 = .ok (.iaload, 1) := by decide +kernel
theorem dX8_worthOf_36 : decode cX8_worthOf 36 = .ok (.invokestatic 37, 3) := by decide +kernel
theorem dX8_worthOf_39 : decode cX8_worthOf 39 = .ok (.istore 7, 2) := by decide +kernel
theorem dX8_worthOf_41 : decode cX8_worthOf 41 = .ok (.lload_n 3, 1) := by decide +kernel
theorem dX8_worthOf_42 : decode cX8_worthOf 42 = .ok (.iload 7, 2) := by decide +kernel
theorem dX8_worthOf_44 : decode cX8_worthOf 44 = .ok (.i2l, 1) := by decide +kernel
theorem dX8_worthOf_45 : decode cX8_worthOf 45 = .ok (.aload_n 0, 1) := by decide +kernel
theorem dX8_worthOf_46 : decode cX8_worthOf 46 = .ok (.getfield 7, 3) := by decide +kernel
theorem dX8_worthOf_49 : decode cX8_worthOf 49 = .ok (.sipush 332, 3) := by decide +kernel
theorem dX8_worthOf_52 : decode cX8_worthOf 52 = .ok (.iload 6, 2) := by decide +kernel
theorem dX8_worthOf_54 : decode cX8_worthOf 54 = .ok (.iadd, 1) := by decide +kernel
theorem dX8_worthOf_55 : decode cX8_worthOf 55 = .ok (.iaload, 1) := by decide +kernel
theorem dX8_worthOf_56 : decode cX8_worthOf 56 = .ok (.i2l, 1) := by decide +kernel
theorem dX8_worthOf_57 : decode cX8_worthOf 57 = .ok (.lmul, 1) := by decide +kernel
theorem dX8_worthOf_58 : decode cX8_worthOf 58 = .ok (.ladd, 1) := by decide +kernel
theorem dX8_worthOf_59 : decode cX8_worthOf 59 = .ok (.lstore_n 3, 1) := by decide +kernel
theorem dX8_worthOf_60 : decode cX8_worthOf 60 = .ok (.iload 5, 2) := by decide +kernel
theorem dX8_worthOf_62 : decode cX8_worthOf 62 = .ok (.iload 7, 2) := by decide +kernel
theorem dX8_worthOf_64 : decode cX8_worthOf 64 = .ok (.isub, 1) := by decide +kernel
theorem dX8_worthOf_65 : decode cX8_worthOf 65 = .ok (.istore 5, 2) := by decide +kernel
theorem dX8_worthOf_67 : decode cX8_worthOf 67 = .ok (.aload_n 0, 1) := by decide +kernel
theorem dX8_worthOf_68 : decode cX8_worthOf 68 = .ok (.iload_n 1, 1) := by decide +kernel
theorem dX8_worthOf_69 : decode cX8_worthOf 69 = .ok (.iload 6, 2) := by decide +kernel
theorem dX8_worthOf_71 : decode cX8_worthOf 71 = .ok (.invokevirtual 33, 3) := by decide +kernel
theorem dX8_worthOf_74 : decode cX8_worthOf 74 = .ok (.istore 6, 2) := by decide +kernel
theorem dX8_worthOf_76 : decode cX8_worthOf 76 = .ok (.goto (-63), 3) := by decide +kernel
theorem dX8_worthOf_79 : decode cX8_worthOf 79 = .ok (.iload 5, 2) := by decide +kernel
theorem dX8_worthOf_81 : decode cX8_worthOf 81 = .ok (.ifCond .le 9, 3) := by decide +kernel
theorem dX8_worthOf_84 : decode cX8_worthOf 84 = .ok (.ldc2_w 40, 3) := by decide +kernel
theorem dX8_worthOf_87 : decode cX8_worthOf 87 = .ok (.goto 4, 3) := by decide +kernel
theorem dX8_worthOf_90 : decode cX8_worthOf 90 = .ok (.lload_n 3, 1) := by decide +kernel
theorem dX8_worthOf_91 : decode cX8_worthOf 91 = .ok (.lreturn, 1) := by decide +kernel
theorem dX8_takes_0 : decode cX8_takes 0 = .ok (.iload_n 2, 1) := by decide +kernel
theorem dX8_takes_1 : decode cX8_takes 1 = .ok (.aload_n 0, 1) := by decide +kernel
theorem dX8_takes_2 : decode cX8_takes 2 = .ok (.getfield 7, 3) := by decide +kernel
theorem dX8_takes_5 : decode cX8_takes 5 = .ok (.sipush 332, 3) := by decide +kernel
theorem dX8_takes_8 : decode cX8_takes 8 = .ok (.iload_n 1, 1) := by decide +kernel
theorem dX8_takes_9 : decode cX8_takes 9 = .ok (.iadd, 1) := by decide +kernel
theorem dX8_takes_10 : decode cX8_takes 10 = .ok (.iaload, 1) := by decide +kernel
theorem dX8_takes_11 : decode cX8_takes 11 = .ok (.imul, 1) := by decide +kernel
theorem dX8_takes_12 : decode cX8_takes 12 = .ok (.istore 4, 2) := by decide +kernel
theorem dX8_takes_14 : decode cX8_takes 14 = .ok (.aload_n 0, 1) := by decide +kernel
theorem dX8_takes_15 : decode cX8_takes 15 = .ok (.getfield 7, 3) := by decide +kernel
theorem dX8_takes_18 : decode cX8_takes 18 = .ok (.sipush 272, 3) := by decide +kernel
theorem dX8_takes_21 : decode cX8_takes 21 = .ok (.iload_n 1, 1) := by decide +kernel
theorem dX8_takes_22 : decode cX8_takes 22 = .ok (.iadd, 1) := by decide +kernel
theorem dX8_takes_23 : decode cX8_takes 23 = .ok (.dup2, 1) := by decide +kernel
theorem dX8_takes_24 : decode cX8_takes 24 = .ok (.iaload, 1) := by decide +kernel
theorem dX8_takes_25 : decode cX8_takes 25 = .ok (.iload_n 2, 1) := by decide +kernel
theorem dX8_takes_26 : decode cX8_takes 26 = .ok (.isub, 1) := by decide +kernel
theorem dX8_takes_27 : decode cX8_takes 27 = .ok (.iastore, 1) := by decide +kernel
theorem dX8_takes_28 : decode cX8_takes 28 = .ok (.aload_n 0, 1) := by decide +kernel
theorem dX8_takes_29 : decode cX8_takes 29 = .ok (.getfield 7, 3) := by decide +kernel
theorem dX8_takes_32 : decode cX8_takes 32 = .ok (.bipush 10, 2) := by decide +kernel
theorem dX8_takes_34 : decode cX8_takes 34 = .ok (.iload_n 3, 1) := by decide +kernel
theorem dX8_takes_35 : decode cX8_takes 35 = .ok (.iadd, 1) := by decide +kernel
theorem dX8_takes_36 : decode cX8_takes 36 = .ok (.dup2, 1) := by decide +kernel
theorem dX8_takes_37 : decode cX8_takes 37 = .ok (.iaload, 1) := by decide +kernel
theorem dX8_takes_38 : decode cX8_takes 38 = .ok (.iload 4, 2) := by decide +kernel
theorem dX8_takes_40 : decode cX8_takes 40 = .ok (.iadd, 1) := by decide +kernel
theorem dX8_takes_41 : decode cX8_takes 41 = .ok (.iastore, 1) := by decide +kernel
theorem dX8_takes_42 : decode cX8_takes 42 = .ok (.aload_n 0, 1) := by decide +kernel
theorem dX8_takes_43 : decode cX8_takes 43 = .ok (.getfield 7, 3) := by decide +kernel
theorem dX8_takes_46 : decode cX8_takes 46 = .ok (.bipush 120, 2) := by decide +kernel
theorem dX8_takes_48 : decode cX8_takes 48 = .ok (.iconst 4, 1) := by decide +kernel
theorem dX8_takes_49 : decode cX8_takes 49 = .ok (.aload_n 0, 1) := by decide +kernel
theorem dX8_takes_50 : decode cX8_takes 50 = .ok (.getfield 7, 3) := by decide +kernel
theorem dX8_takes_53 : decode cX8_takes 53 = .ok (.sipush 152, 3) := by decide +kernel
theorem dX8_takes_56 : decode cX8_takes 56 = .ok (.iload_n 1, 1) := by decide +kernel
theorem dX8_takes_57 : decode cX8_takes 57 = .ok (.iadd, 1) := by decide +kernel
theorem dX8_takes_58 : decode cX8_takes 58 = .ok (.iaload, 1) := by decide +kernel
theorem dX8_takes_59 : decode cX8_takes 59 = .ok (.imul, 1) := by decide +kernel
theorem dX8_takes_60 : decode cX8_takes 60 = .ok (.iadd, 1) := by decide +kernel
theorem dX8_takes_61 : decode cX8_takes 61 = .ok (.iload_n 3, 1) := by decide +kernel
theorem dX8_takes_62 : decode cX8_takes 62 = .ok (.iadd, 1) := by decide +kernel
theorem dX8_takes_63 : decode cX8_takes 63 = .ok (.dup2, 1) := by decide +kernel
theorem dX8_takes_64 : decode cX8_takes 64 = .ok (.iaload, 1) := by decide +kernel
theorem dX8_takes_65 : decode cX8_takes 65 = .ok (.iload_n 2, 1) := by decide +kernel
theorem dX8_takes_66 : decode cX8_takes 66 = .ok (.iadd, 1) := by decide +kernel
theorem dX8_takes_67 : decode cX8_takes 67 = .ok (.iastore, 1) := by decide +kernel
theorem dX8_takes_68 : decode cX8_takes 68 = .ok (.iload 4, 2) := by decide +kernel
theorem dX8_takes_70 : decode cX8_takes 70 = .ok (.ireturn, 1) := by decide +kernel
theorem dX8_releases_0 : decode cX8_releases 0 = .ok (.iconst 0, 1) := by decide +kernel
theorem dX8_releases_1 : decode cX8_releases 1 = .ok (.istore 4, 2) := by decide +kernel
theorem dX8_releases_3 : decode cX8_releases 3 = .ok (.iload_n 2, 1) := by decide +kernel
theorem dX8_releases_4 : decode cX8_releases 4 = .ok (.istore 5, 2) := by decide +kernel
theorem dX8_releases_6 : decode cX8_releases 6 = .ok (.iload 5, 2) := by decide +kernel
theorem dX8_releases_8 : decode cX8_releases 8 = .ok (.ifCond .le 53, 3) := by decide +kernel
theorem dX8_releases_11 : decode cX8_releases 11 = .ok (.aload_n 0, 1) := by decide +kernel
theorem dX8_releases_12 : decode cX8_releases 12 = .ok (.iload_n 1, 1) := by decide +kernel
theorem dX8_releases_13 : decode cX8_releases 13 = .ok (.iconst (-1), 1) := by decide +kernel
theorem dX8_releases_14 : decode cX8_releases 14 = .ok (.invokevirtual 33, 3) := by decide +kernel
theorem dX8_releases_17 : decode cX8_releases 17 = .ok (.istore 6, 2) := by decide +kernel
theorem dX8_releases_19 : decode cX8_releases 19 = .ok (.iload 5, 2) := by decide +kernel
theorem dX8_releases_21 : decode cX8_releases 21 = .ok (.aload_n 0, 1) := by decide +kernel
theorem dX8_releases_22 : decode cX8_releases 22 = .ok (.getfield 7, 3) := by decide +kernel
theorem dX8_releases_25 : decode cX8_releases 25 = .ok (.sipush 272, 3) := by decide +kernel
theorem dX8_releases_28 : decode cX8_releases 28 = .ok (.iload 6, 2) := by decide +kernel
theorem dX8_releases_30 : decode cX8_releases 30 = .ok (.iadd, 1) := by decide +kernel
theorem dX8_releases_31 : decode cX8_releases 31 = .ok (.iaload, 1) := by decide +kernel
theorem dX8_releases_32 : decode cX8_releases 32 = .ok (.invokestatic 37, 3) := by decide +kernel
theorem dX8_releases_35 : decode cX8_releases 35 = .ok (.istore 7, 2) := by decide +kernel
theorem dX8_releases_37 : decode cX8_releases 37 = .ok (.iload 4, 2) := by decide +kernel
theorem dX8_releases_39 : decode cX8_releases 39 = .ok (.aload_n 0, 1) := by decide +kernel
theorem dX8_releases_40 : decode cX8_releases 40 = .ok (.iload 6, 2) := by decide +kernel
theorem dX8_releases_42 : decode cX8_releases 42 = .ok (.iload 7, 2) := by decide +kernel
theorem dX8_releases_44 : decode cX8_releases 44 = .ok (.iload_n 3, 1) := by decide +kernel
theorem dX8_releases_45 : decode cX8_releases 45 = .ok (.invokevirtual 42, 3) := by decide +kernel
theorem dX8_releases_48 : decode cX8_releases 48 = .ok (.iadd, 1) := by decide +kernel
theorem dX8_releases_49 : decode cX8_releases 49 = .ok (.istore 4, 2) := by decide +kernel
theorem dX8_releases_51 : decode cX8_releases 51 = .ok (.iload 5, 2) := by decide +kernel
theorem dX8_releases_53 : decode cX8_releases 53 = .ok (.iload 7, 2) := by decide +kernel
theorem dX8_releases_55 : decode cX8_releases 55 = .ok (.isub, 1) := by decide +kernel
theorem dX8_releases_56 : decode cX8_releases 56 = .ok (.istore 5, 2) := by decide +kernel
theorem dX8_releases_58 : decode cX8_releases 58 = .ok (.goto (-52), 3) := by decide +kernel
theorem dX8_releases_61 : decode cX8_releases 61 = .ok (.iload 4, 2) := by decide +kernel
theorem dX8_releases_63 : decode cX8_releases 63 = .ok (.ireturn, 1) := by decide +kernel
theorem dX8_addsLocker_0 : decode cX8_addsLocker 0 = .ok (.aload_n 0, 1) := by decide +kernel
theorem dX8_addsLocker_1 : decode cX8_addsLocker 1 = .ok (.getfield 7, 3) := by decide +kernel
theorem dX8_addsLocker_4 : decode cX8_addsLocker 4 = .ok (.iconst 0, 1) := by decide +kernel
theorem dX8_addsLocker_5 : decode cX8_addsLocker 5 = .ok (.iaload, 1) := by decide +kernel
theorem dX8_addsLocker_6 : decode cX8_addsLocker 6 = .ok (.iconst 2, 1) := by decide +kernel
theorem dX8_addsLocker_7 : decode cX8_addsLocker 7 = .ok (.if_icmp .eq 6, 3) := by decide +kernel
theorem dX8_addsLocker_10 : decode cX8_addsLocker 10 = .ok (.bipush (-2), 2) := by decide +kernel
theorem dX8_addsLocker_12 : decode cX8_addsLocker 12 = .ok (.ireturn, 1) := by decide +kernel
theorem dX8_addsLocker_13 : decode cX8_addsLocker 13 = .ok (.aload_n 0, 1) := by decide +kernel
theorem dX8_addsLocker_14 : decode cX8_addsLocker 14 = .ok (.getfield 7, 3) := by decide +kernel
theorem dX8_addsLocker_17 : decode cX8_addsLocker 17 = .ok (.iconst 4, 1) := by decide +kernel
theorem dX8_addsLocker_18 : decode cX8_addsLocker 18 = .ok (.iaload, 1) := by decide +kernel
theorem dX8_addsLocker_19 : decode cX8_addsLocker 19 = .ok (.iconst 5, 1) := by decide +kernel
theorem dX8_addsLocker_20 : decode cX8_addsLocker 20 = .ok (.if_icmp .eq 11, 3) := by decide +kernel
theorem dX8_addsLocker_23 : decode cX8_addsLocker 23 = .ok (.aload_n 0, 1) := by decide +kernel
theorem dX8_addsLocker_24 : decode cX8_addsLocker 24 = .ok (.iconst 1, 1) := by decide +kernel
theorem dX8_addsLocker_25 : decode cX8_addsLocker 25 = .ok (.invokevirtual 46, 3) := by decide +kernel
theorem dX8_addsLocker_28 : decode cX8_addsLocker 28 = .ok (.ifCond .ne 6, 3) := by decide +kernel
theorem dX8_addsLocker_31 : decode cX8_addsLocker 31 = .ok (.bipush (-3), 2) := by decide +kernel
theorem dX8_addsLocker_33 : decode cX8_addsLocker 33 = .ok (.ireturn, 1) := by decide +kernel
theorem dX8_addsLocker_34 : decode cX8_addsLocker 34 = .ok (.aload_n 0, 1) := by decide +kernel
theorem dX8_addsLocker_35 : decode cX8_addsLocker 35 = .ok (.aload_n 0, 1) := by decide +kernel
theorem dX8_addsLocker_36 : decode cX8_addsLocker 36 = .ok (.getfield 7, 3) := by decide +kernel
theorem dX8_addsLocker_39 : decode cX8_addsLocker 39 = .ok (.iconst 4, 1) := by decide +kernel
theorem dX8_addsLocker_40 : decode cX8_addsLocker 40 = .ok (.iaload, 1) := by decide +kernel
theorem dX8_addsLocker_41 : decode cX8_addsLocker 41 = .ok (.invokevirtual 50, 3) := by decide +kernel
theorem dX8_addsLocker_44 : decode cX8_addsLocker 44 = .ok (.aload_n 0, 1) := by decide +kernel
theorem dX8_addsLocker_45 : decode cX8_addsLocker 45 = .ok (.getfield 7, 3) := by decide +kernel
theorem dX8_addsLocker_48 : decode cX8_addsLocker 48 = .ok (.iconst 4, 1) := by decide +kernel
theorem dX8_addsLocker_49 : decode cX8_addsLocker 49 = .ok (.dup2, 1) := by decide +kernel
theorem dX8_addsLocker_50 : decode cX8_addsLocker 50 = .ok (.iaload, 1) := by decide +kernel
theorem dX8_addsLocker_51 : decode cX8_addsLocker 51 = .ok (.iconst 1, 1) := by decide +kernel
theorem dX8_addsLocker_52 : decode cX8_addsLocker 52 = .ok (.iadd, 1) := by decide +kernel
theorem dX8_addsLocker_53 : decode cX8_addsLocker 53 = .ok (.iastore, 1) := by decide +kernel
theorem dX8_addsLocker_54 : decode cX8_addsLocker 54 = .ok (.aload_n 0, 1) := by decide +kernel
theorem dX8_addsLocker_55 : decode cX8_addsLocker 55 = .ok (.getfield 7, 3) := by decide +kernel
theorem dX8_addsLocker_58 : decode cX8_addsLocker 58 = .ok (.iconst 4, 1) := by decide +kernel
theorem dX8_addsLocker_59 : decode cX8_addsLocker 59 = .ok (.iaload, 1) := by decide +kernel
theorem dX8_addsLocker_60 : decode cX8_addsLocker 60 = .ok (.iconst 1, 1) := by decide +kernel
theorem dX8_addsLocker_61 : decode cX8_addsLocker 61 = .ok (.isub, 1) := by decide +kernel
theorem dX8_addsLocker_62 : decode cX8_addsLocker 62 = .ok (.ireturn, 1) := by decide +kernel
theorem dX8_locker_0 : decode cX8_locker 0 = .ok (.aload_n 0, 1) := by decide +kernel
theorem dX8_locker_1 : decode cX8_locker 1 = .ok (.invokevirtual 54, 3) := by decide +kernel
theorem dX8_locker_4 : decode cX8_locker 4 = .ok (.aload_n 0, 1) := by decide +kernel
theorem dX8_locker_5 : decode cX8_locker 5 = .ok (.aload_n 0, 1) := by decide +kernel
theorem dX8_locker_6 : decode cX8_locker 6 = .ok (.invokevirtual 57, 3) := by decide +kernel
theorem dX8_locker_9 : decode cX8_locker 9 = .ok (.invokevirtual 61, 3) := by decide +kernel
theorem dX8_locker_12 : decode cX8_locker 12 = .ok (.ireturn, 1) := by decide +kernel
theorem dX8_isDuty_0 : decode cX8_isDuty 0 = .ok (.iload_n 0, 1) := by decide +kernel
theorem dX8_isDuty_1 : decode cX8_isDuty 1 = .ok (.iconst 1, 1) := by decide +kernel
theorem dX8_isDuty_2 : decode cX8_isDuty 2 = .ok (.ldc 65, 2) := by decide +kernel
theorem dX8_isDuty_4 : decode cX8_isDuty 4 = .ok (.invokestatic 22, 3) := by decide +kernel
theorem dX8_isDuty_7 : decode cX8_isDuty 7 = .ok (.ireturn, 1) := by decide +kernel
theorem dX8_addsGood_0 : decode cX8_addsGood 0 = .ok (.iload_n 1, 1) := by decide +kernel
theorem dX8_addsGood_1 : decode cX8_addsGood 1 = .ok (.invokestatic 66, 3) := by decide +kernel
theorem dX8_addsGood_4 : decode cX8_addsGood 4 = .ok (.ifCond .ne 5, 3) := by decide +kernel
theorem dX8_addsGood_7 : decode cX8_addsGood 7 = .ok (.iconst (-1), 1) := by decide +kernel
theorem dX8_addsGood_8 : decode cX8_addsGood 8 = .ok (.ireturn, 1) := by decide +kernel
theorem dX8_addsGood_9 : decode cX8_addsGood 9 = .ok (.aload_n 0, 1) := by decide +kernel
theorem dX8_addsGood_10 : decode cX8_addsGood 10 = .ok (.getfield 7, 3) := by decide +kernel
theorem dX8_addsGood_13 : decode cX8_addsGood 13 = .ok (.iconst 5, 1) := by decide +kernel
theorem dX8_addsGood_14 : decode cX8_addsGood 14 = .ok (.iaload, 1) := by decide +kernel
theorem dX8_addsGood_15 : decode cX8_addsGood 15 = .ok (.bipush 8, 2) := by decide +kernel
theorem dX8_addsGood_17 : decode cX8_addsGood 17 = .ok (.if_icmp .ne 6, 3) := by decide +kernel
theorem dX8_addsGood_20 : decode cX8_addsGood 20 = .ok (.bipush (-3), 2) := by decide +kernel
theorem dX8_addsGood_22 : decode cX8_addsGood 22 = .ok (.ireturn, 1) := by decide +kernel
theorem dX8_addsGood_23 : decode cX8_addsGood 23 = .ok (.aload_n 0, 1) := by decide +kernel
theorem dX8_addsGood_24 : decode cX8_addsGood 24 = .ok (.getfield 7, 3) := by decide +kernel
theorem dX8_addsGood_27 : decode cX8_addsGood 27 = .ok (.bipush 104, 2) := by decide +kernel
theorem dX8_addsGood_29 : decode cX8_addsGood 29 = .ok (.aload_n 0, 1) := by decide +kernel
theorem dX8_addsGood_30 : decode cX8_addsGood 30 = .ok (.getfield 7, 3) := by decide +kernel
theorem dX8_addsGood_33 : decode cX8_addsGood 33 = .ok (.iconst 5, 1) := by decide +kernel
theorem dX8_addsGood_34 : decode cX8_addsGood 34 = .ok (.iaload, 1) := by decide +kernel
theorem dX8_addsGood_35 : decode cX8_addsGood 35 = .ok (.iadd, 1) := by decide +kernel
theorem dX8_addsGood_36 : decode cX8_addsGood 36 = .ok (.iload_n 1, 1) := by decide +kernel
theorem dX8_addsGood_37 : decode cX8_addsGood 37 = .ok (.iastore, 1) := by decide +kernel
theorem dX8_addsGood_38 : decode cX8_addsGood 38 = .ok (.aload_n 0, 1) := by decide +kernel
theorem dX8_addsGood_39 : decode cX8_addsGood 39 = .ok (.getfield 7, 3) := by decide +kernel
theorem dX8_addsGood_42 : decode cX8_addsGood 42 = .ok (.iconst 5, 1) := by decide +kernel
theorem dX8_addsGood_43 : decode cX8_addsGood 43 = .ok (.dup2, 1) := by decide +kernel
theorem dX8_addsGood_44 : decode cX8_addsGood 44 = .ok (.iaload, 1) := by decide +kernel
theorem dX8_addsGood_45 : decode cX8_addsGood 45 = .ok (.iconst 1, 1) := by decide +kernel
theorem dX8_addsGood_46 : decode cX8_addsGood 46 = .ok (.iadd, 1) := by decide +kernel
theorem dX8_addsGood_47 : decode cX8_addsGood 47 = .ok (.iastore, 1) := by decide +kernel
theorem dX8_addsGood_48 : decode cX8_addsGood 48 = .ok (.aload_n 0, 1) := by decide +kernel
theorem dX8_addsGood_49 : decode cX8_addsGood 49 = .ok (.getfield 7, 3) := by decide +kernel
theorem dX8_addsGood_52 : decode cX8_addsGood 52 = .ok (.iconst 5, 1) := by decide +kernel
theorem dX8_addsGood_53 : decode cX8_addsGood 53 = .ok (.iaload, 1) := by decide +kernel
theorem dX8_addsGood_54 : decode cX8_addsGood 54 = .ok (.iconst 1, 1) := by decide +kernel
theorem dX8_addsGood_55 : decode cX8_addsGood 55 = .ok (.isub, 1) := by decide +kernel
theorem dX8_addsGood_56 : decode cX8_addsGood 56 = .ok (.ireturn, 1) := by decide +kernel
theorem dX8_good_0 : decode cX8_good 0 = .ok (.aload_n 0, 1) := by decide +kernel
theorem dX8_good_1 : decode cX8_good 1 = .ok (.invokevirtual 54, 3) := by decide +kernel
theorem dX8_good_4 : decode cX8_good 4 = .ok (.aload_n 0, 1) := by decide +kernel
theorem dX8_good_5 : decode cX8_good 5 = .ok (.aload_n 0, 1) := by decide +kernel
theorem dX8_good_6 : decode cX8_good 6 = .ok (.iload_n 1, 1) := by decide +kernel
theorem dX8_good_7 : decode cX8_good 7 = .ok (.invokevirtual 69, 3) := by decide +kernel
theorem dX8_good_10 : decode cX8_good 10 = .ok (.invokevirtual 61, 3) := by decide +kernel
theorem dX8_good_13 : decode cX8_good 13 = .ok (.ireturn, 1) := by decide +kernel
theorem dX8_duty_0 : decode cX8_duty 0 = .ok (.aload_n 0, 1) := by decide +kernel
theorem dX8_duty_1 : decode cX8_duty 1 = .ok (.iload_n 1, 1) := by decide +kernel
theorem dX8_duty_2 : decode cX8_duty 2 = .ok (.invokevirtual 72, 3) := by decide +kernel
theorem dX8_duty_5 : decode cX8_duty 5 = .ok (.ifCond .eq 10, 3) := by decide +kernel
theorem dX8_duty_8 : decode cX8_duty 8 = .ok (.iload_n 2, 1) := by decide +kernel
theorem dX8_duty_9 : decode cX8_duty 9 = .ok (.invokestatic 66, 3) := by decide +kernel
theorem dX8_duty_12 : decode cX8_duty 12 = .ok (.ifCond .ne 5, 3) := by decide +kernel
theorem dX8_duty_15 : decode cX8_duty 15 = .ok (.iconst (-1), 1) := by decide +kernel
theorem dX8_duty_16 : decode cX8_duty 16 = .ok (.ireturn, 1) := by decide +kernel
theorem dX8_duty_17 : decode cX8_duty 17 = .ok (.aload_n 0, 1) := by decide +kernel
theorem dX8_duty_18 : decode cX8_duty 18 = .ok (.invokevirtual 54, 3) := by decide +kernel
theorem dX8_duty_21 : decode cX8_duty 21 = .ok (.aload_n 0, 1) := by decide +kernel
theorem dX8_duty_22 : decode cX8_duty 22 = .ok (.getfield 7, 3) := by decide +kernel
theorem dX8_duty_25 : decode cX8_duty 25 = .ok (.bipush 104, 2) := by decide +kernel
theorem dX8_duty_27 : decode cX8_duty 27 = .ok (.iload_n 1, 1) := by decide +kernel
theorem dX8_duty_28 : decode cX8_duty 28 = .ok (.iadd, 1) := by decide +kernel
theorem dX8_duty_29 : decode cX8_duty 29 = .ok (.iaload, 1) := by decide +kernel
theorem dX8_duty_30 : decode cX8_duty 30 = .ok (.istore_n 3, 1) := by decide +kernel
theorem dX8_duty_31 : decode cX8_duty 31 = .ok (.aload_n 0, 1) := by decide +kernel
theorem dX8_duty_32 : decode cX8_duty 32 = .ok (.getfield 7, 3) := by decide +kernel
theorem dX8_duty_35 : decode cX8_duty 35 = .ok (.bipush 104, 2) := by decide +kernel
theorem dX8_duty_37 : decode cX8_duty 37 = .ok (.iload_n 1, 1) := by decide +kernel
theorem dX8_duty_38 : decode cX8_duty 38 = .ok (.iadd, 1) := by decide +kernel
theorem dX8_duty_39 : decode cX8_duty 39 = .ok (.iload_n 2, 1) := by decide +kernel
theorem dX8_duty_40 : decode cX8_duty 40 = .ok (.iastore, 1) := by decide +kernel
theorem dX8_duty_41 : decode cX8_duty 41 = .ok (.aload_n 0, 1) := by decide +kernel
theorem dX8_duty_42 : decode cX8_duty 42 = .ok (.iload_n 3, 1) := by decide +kernel
theorem dX8_duty_43 : decode cX8_duty 43 = .ok (.invokevirtual 61, 3) := by decide +kernel
theorem dX8_duty_46 : decode cX8_duty 46 = .ok (.ireturn, 1) := by decide +kernel
theorem dX8_isMove_0 : decode cX8_isMove 0 = .ok (.aload_n 0, 1) := by decide +kernel
theorem dX8_isMove_1 : decode cX8_isMove 1 = .ok (.iload_n 1, 1) := by decide +kernel
theorem dX8_isMove_2 : decode cX8_isMove 2 = .ok (.invokevirtual 75, 3) := by decide +kernel
theorem dX8_isMove_5 : decode cX8_isMove 5 = .ok (.ifCond .eq 26, 3) := by decide +kernel
theorem dX8_isMove_8 : decode cX8_isMove 8 = .ok (.aload_n 0, 1) := by decide +kernel
theorem dX8_isMove_9 : decode cX8_isMove 9 = .ok (.iload_n 2, 1) := by decide +kernel
theorem dX8_isMove_10 : decode cX8_isMove 10 = .ok (.invokevirtual 72, 3) := by decide +kernel
theorem dX8_isMove_13 : decode cX8_isMove 13 = .ok (.ifCond .eq 18, 3) := by decide +kernel
theorem dX8_isMove_16 : decode cX8_isMove 16 = .ok (.iload_n 3, 1) := by decide +kernel
theorem dX8_isMove_17 : decode cX8_isMove 17 = .ok (.iconst 1, 1) := by decide +kernel
theorem dX8_isMove_18 : decode cX8_isMove 18 = .ok (.sipush 9999, 3) := by decide +kernel
theorem dX8_isMove_21 : decode cX8_isMove 21 = .ok (.invokestatic 22, 3) := by decide +kernel
theorem dX8_isMove_24 : decode cX8_isMove 24 = .ok (.ifCond .eq 7, 3) := by decide +kernel
theorem dX8_isMove_27 : decode cX8_isMove 27 = .ok (.iconst 1, 1) := by decide +kernel
theorem dX8_isMove_28 : decode cX8_isMove 28 = .ok (.goto 4, 3) := by decide +kernel
theorem dX8_isMove_31 : decode cX8_isMove 31 = .ok (.iconst 0, 1) := by decide +kernel
theorem dX8_isMove_32 : decode cX8_isMove 32 = .ok (.ireturn, 1) := by decide +kernel
theorem dX8_loads_0 : decode cX8_loads 0 = .ok (.aload_n 0, 1) := by decide +kernel
theorem dX8_loads_1 : decode cX8_loads 1 = .ok (.iload_n 1, 1) := by decide +kernel
theorem dX8_loads_2 : decode cX8_loads 2 = .ok (.iload_n 2, 1) := by decide +kernel
theorem dX8_loads_3 : decode cX8_loads 3 = .ok (.iload_n 3, 1) := by decide +kernel
theorem dX8_loads_4 : decode cX8_loads 4 = .ok (.invokevirtual 78, 3) := by decide +kernel
theorem dX8_loads_7 : decode cX8_loads 7 = .ok (.ifCond .ne 5, 3) := by decide +kernel
theorem dX8_loads_10 : decode cX8_loads 10 = .ok (.iconst (-1), 1) := by decide +kernel
theorem dX8_loads_11 : decode cX8_loads 11 = .ok (.ireturn, 1) := by decide +kernel
theorem dX8_loads_12 : decode cX8_loads 12 = .ok (.aload_n 0, 1) := by decide +kernel
theorem dX8_loads_13 : decode cX8_loads 13 = .ok (.getfield 7, 3) := by decide +kernel
theorem dX8_loads_16 : decode cX8_loads 16 = .ok (.iconst 0, 1) := by decide +kernel
theorem dX8_loads_17 : decode cX8_loads 17 = .ok (.iaload, 1) := by decide +kernel
theorem dX8_loads_18 : decode cX8_loads 18 = .ok (.iconst 2, 1) := by decide +kernel
theorem dX8_loads_19 : decode cX8_loads 19 = .ok (.if_icmp .ne 16, 3) := by decide +kernel
theorem dX8_loads_22 : decode cX8_loads 22 = .ok (.aload_n 0, 1) := by decide +kernel
theorem dX8_loads_23 : decode cX8_loads 23 = .ok (.getfield 7, 3) := by decide +kernel
theorem dX8_loads_26 : decode cX8_loads 26 = .ok (.bipush 14, 2) := by decide +kernel
theorem dX8_loads_28 : decode cX8_loads 28 = .ok (.iload_n 1, 1) := by decide +kernel
theorem dX8_loads_29 : decode cX8_loads 29 = .ok (.iadd, 1) := by decide +kernel
theorem dX8_loads_30 : decode cX8_loads 30 = .ok (.iaload, 1) := by decide +kernel
theorem dX8_loads_31 : decode cX8_loads 31 = .ok (.iconst 2, 1) := by decide +kernel
theorem dX8_loads_32 : decode cX8_loads 32 = .ok (.if_icmp .ne 6, 3) := by decide +kernel
theorem dX8_loads_35 : decode cX8_loads 35 = .ok (.bipush (-2), 2) := by decide +kernel
theorem dX8_loads_37 : decode cX8_loads 37 = .ok (.ireturn, 1) := by decide +kernel
theorem dX8_loads_38 : decode cX8_loads 38 = .ok (.iload_n 3, 1) := by decide +kernel
theorem dX8_loads_39 : decode cX8_loads 39 = .ok (.i2l, 1) := by decide +kernel
theorem dX8_loads_40 : decode cX8_loads 40 = .ok (.aload_n 0, 1) := by decide +kernel
theorem dX8_loads_41 : decode cX8_loads 41 = .ok (.getfield 7, 3) := by decide +kernel
theorem dX8_loads_44 : decode cX8_loads 44 = .ok (.bipush 104, 2) := by decide +kernel
theorem dX8_loads_46 : decode cX8_loads 46 = .ok (.iload_n 2, 1) := by decide +kernel
theorem dX8_loads_47 : decode cX8_loads 47 = .ok (.iadd, 1) := by decide +kernel
theorem dX8_loads_48 : decode cX8_loads 48 = .ok (.iaload, 1) := by decide +kernel
theorem dX8_loads_49 : decode cX8_loads 49 = .ok (.i2l, 1) := by decide +kernel
theorem dX8_loads_50 : decode cX8_loads 50 = .ok (.lmul, 1) := by decide +kernel
theorem dX8_loads_51 : decode cX8_loads 51 = .ok (.lstore 4, 2) := by decide +kernel
theorem dX8_loads_53 : decode cX8_loads 53 = .ok (.aload_n 0, 1) := by decide +kernel
theorem dX8_loads_54 : decode cX8_loads 54 = .ok (.getfield 7, 3) := by decide +kernel
theorem dX8_loads_57 : decode cX8_loads 57 = .ok (.bipush 6, 2) := by decide +kernel
theorem dX8_loads_59 : decode cX8_loads 59 = .ok (.iaload, 1) := by decide +kernel
theorem dX8_loads_60 : decode cX8_loads 60 = .ok (.bipush 60, 2) := by decide +kernel
theorem dX8_loads_62 : decode cX8_loads 62 = .ok (.if_icmp .eq 50, 3) := by decide +kernel
theorem dX8_loads_65 : decode cX8_loads 65 = .ok (.aload_n 0, 1) := by decide +kernel
theorem dX8_loads_66 : decode cX8_loads 66 = .ok (.iconst 1, 1) := by decide +kernel
theorem dX8_loads_67 : decode cX8_loads 67 = .ok (.invokevirtual 46, 3) := by decide +kernel
theorem dX8_loads_70 : decode cX8_loads 70 = .ok (.ifCond .eq 42, 3) := by decide +kernel
theorem dX8_loads_73 : decode cX8_loads 73 = .ok (.aload_n 0, 1) := by decide +kernel
theorem dX8_loads_74 : decode cX8_loads 74 = .ok (.getfield 7, 3) := by decide +kernel
theorem dX8_loads_77 : decode cX8_loads 77 = .ok (.bipush 24, 2) := by decide +kernel
theorem dX8_loads_79 : decode cX8_loads 79 = .ok (.bipush 8, 2) := by decide +kernel
theorem dX8_loads_81 : decode cX8_loads 81 = .ok (.iload_n 1, 1) := by decide +kernel
theorem dX8_loads_82 : decode cX8_loads 82 = .ok (.imul, 1) := by decide +kernel
theorem dX8_loads_83 : decode cX8_loads 83 = .ok (.iadd, 1) := by decide +kernel
theorem dX8_loads_84 : decode cX8_loads 84 = .ok (.iload_n 2, 1) := by decide +kernel
theorem dX8_loads_85 : decode cX8_loads 85 = .ok (.iadd, 1) := by decide +kernel
theorem dX8_loads_86 : decode cX8_loads 86 = .ok (.iaload, 1) := by decide +kernel
theorem dX8_loads_87 : decode cX8_loads 87 = .ok (.iload_n 3, 1) := by decide +kernel
theorem dX8_loads_88 : decode cX8_loads 88 = .ok (.iadd, 1) := by decide +kernel
theorem dX8_loads_89 : decode cX8_loads 89 = .ok (.ldc 81, 2) := by decide +kernel
theorem dX8_loads_91 : decode cX8_loads 91 = .ok (.if_icmp .gt 21, 3) := by decide +kernel
theorem dX8_loads_94 : decode cX8_loads 94 = .ok (.aload_n 0, 1) := by decide +kernel
theorem dX8_loads_95 : decode cX8_loads 95 = .ok (.getfield 7, 3) := by decide +kernel
theorem dX8_loads_98 : decode cX8_loads 98 = .ok (.bipush 9, 2) := by decide +kernel
theorem dX8_loads_100 : decode cX8_loads 100 = .ok (.iaload, 1) := by decide +kernel
theorem dX8_loads_101 : decode cX8_loads 101 = .ok (.i2l, 1) := by decide +kernel
theorem dX8_loads_102 : decode cX8_loads 102 = .ok (.lload 4, 2) := by decide +kernel
theorem dX8_loads_104 : decode cX8_loads 104 = .ok (.ladd, 1) := by decide +kernel
theorem dX8_loads_105 : decode cX8_loads 105 = .ok (.ldc2_w 82, 3) := by decide +kernel
theorem dX8_loads_108 : decode cX8_loads 108 = .ok (.lcmp, 1) := by decide +kernel
theorem dX8_loads_109 : decode cX8_loads 109 = .ok (.ifCond .le 6, 3) := by decide +kernel
theorem dX8_loads_112 : decode cX8_loads 112 = .ok (.bipush (-3), 2) := by decide +kernel
theorem dX8_loads_114 : decode cX8_loads 114 = .ok (.ireturn, 1) := by decide +kernel
theorem dX8_loads_115 : decode cX8_loads 115 = .ok (.aload_n 0, 1) := by decide +kernel
theorem dX8_loads_116 : decode cX8_loads 116 = .ok (.getfield 7, 3) := by decide +kernel
theorem dX8_loads_119 : decode cX8_loads 119 = .ok (.bipush 6, 2) := by decide +kernel
theorem dX8_loads_121 : decode cX8_loads 121 = .ok (.iaload, 1) := by decide +kernel
theorem dX8_loads_122 : decode cX8_loads 122 = .ok (.istore 6, 2) := by decide +kernel
theorem dX8_loads_124 : decode cX8_loads 124 = .ok (.aload_n 0, 1) := by decide +kernel
theorem dX8_loads_125 : decode cX8_loads 125 = .ok (.iload_n 1, 1) := by decide +kernel
theorem dX8_loads_126 : decode cX8_loads 126 = .ok (.iconst 2, 1) := by decide +kernel
theorem dX8_loads_127 : decode cX8_loads 127 = .ok (.invokevirtual 84, 3) := by decide +kernel
theorem dX8_loads_130 : decode cX8_loads 130 = .ok (.aload_n 0, 1) := by decide +kernel
theorem dX8_loads_131 : decode cX8_loads 131 = .ok (.getfield 7, 3) := by decide +kernel
theorem dX8_loads_134 : decode cX8_loads 134 = .ok (.sipush 152, 3) := by decide +kernel
theorem dX8_loads_137 : decode cX8_loads 137 = .ok (.iload 6, 2) := by decide +kernel
theorem dX8_loads_139 : decode cX8_loads 139 = .ok (.iadd, 1) := by decide +kernel
theorem dX8_loads_140 : decode cX8_loads 140 = .ok (.iload_n 2, 1) := by decide +kernel
theorem dX8_loads_141 : decode cX8_loads 141 = .ok (.iastore, 1) := by decide +kernel
theorem dX8_loads_142 : decode cX8_loads 142 = .ok (.aload_n 0, 1) := by decide +kernel
theorem dX8_loads_143 : decode cX8_loads 143 = .ok (.getfield 7, 3) := by decide +kernel
theorem dX8_loads_146 : decode cX8_loads 146 = .ok (.sipush 212, 3) := by decide +kernel
theorem dX8_loads_149 : decode cX8_loads 149 = .ok (.iload 6, 2) := by decide +kernel
theorem dX8_loads_151 : decode cX8_loads 151 = .ok (.iadd, 1) := by decide +kernel
theorem dX8_loads_152 : decode cX8_loads 152 = .ok (.iload_n 3, 1) := by decide +kernel
theorem dX8_loads_153 : decode cX8_loads 153 = .ok (.iastore, 1) := by decide +kernel
theorem dX8_loads_154 : decode cX8_loads 154 = .ok (.aload_n 0, 1) := by decide +kernel
theorem dX8_loads_155 : decode cX8_loads 155 = .ok (.getfield 7, 3) := by decide +kernel
theorem dX8_loads_158 : decode cX8_loads 158 = .ok (.sipush 272, 3) := by decide +kernel
theorem dX8_loads_161 : decode cX8_loads 161 = .ok (.iload 6, 2) := by decide +kernel
theorem dX8_loads_163 : decode cX8_loads 163 = .ok (.iadd, 1) := by decide +kernel
theorem dX8_loads_164 : decode cX8_loads 164 = .ok (.iload_n 3, 1) := by decide +kernel
theorem dX8_loads_165 : decode cX8_loads 165 = .ok (.iastore, 1) := by decide +kernel
theorem dX8_loads_166 : decode cX8_loads 166 = .ok (.aload_n 0, 1) := by decide +kernel
theorem dX8_loads_167 : decode cX8_loads 167 = .ok (.getfield 7, 3) := by decide +kernel
theorem dX8_loads_170 : decode cX8_loads 170 = .ok (.sipush 332, 3) := by decide +kernel
theorem dX8_loads_173 : decode cX8_loads 173 = .ok (.iload 6, 2) := by decide +kernel
theorem dX8_loads_175 : decode cX8_loads 175 = .ok (.iadd, 1) := by decide +kernel
theorem dX8_loads_176 : decode cX8_loads 176 = .ok (.aload_n 0, 1) := by decide +kernel
theorem dX8_loads_177 : decode cX8_loads 177 = .ok (.getfield 7, 3) := by decide +kernel
theorem dX8_loads_180 : decode cX8_loads 180 = .ok (.bipush 104, 2) := by decide +kernel
theorem dX8_loads_182 : decode cX8_loads 182 = .ok (.iload_n 2, 1) := by decide +kernel
theorem dX8_loads_183 : decode cX8_loads 183 = .ok (.iadd, 1) := by decide +kernel
theorem dX8_loads_184 : decode cX8_loads 184 = .ok (.iaload, 1) := by decide +kernel
theorem dX8_loads_185 : decode cX8_loads 185 = .ok (.iastore, 1) := by decide +kernel
theorem dX8_loads_186 : decode cX8_loads 186 = .ok (.aload_n 0, 1) := by decide +kernel
theorem dX8_loads_187 : decode cX8_loads 187 = .ok (.getfield 7, 3) := by decide +kernel
theorem dX8_loads_190 : decode cX8_loads 190 = .ok (.sipush 392, 3) := by decide +kernel
theorem dX8_loads_193 : decode cX8_loads 193 = .ok (.iload 6, 2) := by decide +kernel
theorem dX8_loads_195 : decode cX8_loads 195 = .ok (.iadd, 1) := by decide +kernel
theorem dX8_loads_196 : decode cX8_loads 196 = .ok (.aload_n 0, 1) := by decide +kernel
theorem dX8_loads_197 : decode cX8_loads 197 = .ok (.getfield 7, 3) := by decide +kernel
theorem dX8_loads_200 : decode cX8_loads 200 = .ok (.iconst 1, 1) := by decide +kernel
theorem dX8_loads_201 : decode cX8_loads 201 = .ok (.iaload, 1) := by decide +kernel
theorem dX8_loads_202 : decode cX8_loads 202 = .ok (.aload_n 0, 1) := by decide +kernel
theorem dX8_loads_203 : decode cX8_loads 203 = .ok (.getfield 7, 3) := by decide +kernel
theorem dX8_loads_206 : decode cX8_loads 206 = .ok (.iconst 3, 1) := by decide +kernel
theorem dX8_loads_207 : decode cX8_loads 207 = .ok (.iaload, 1) := by decide +kernel
theorem dX8_loads_208 : decode cX8_loads 208 = .ok (.iadd, 1) := by decide +kernel
theorem dX8_loads_209 : decode cX8_loads 209 = .ok (.iastore, 1) := by decide +kernel
theorem dX8_loads_210 : decode cX8_loads 210 = .ok (.aload_n 0, 1) := by decide +kernel
theorem dX8_loads_211 : decode cX8_loads 211 = .ok (.getfield 7, 3) := by decide +kernel
theorem dX8_loads_214 : decode cX8_loads 214 = .ok (.bipush 6, 2) := by decide +kernel
theorem dX8_loads_216 : decode cX8_loads 216 = .ok (.dup2, 1) := by decide +kernel
theorem dX8_loads_217 : decode cX8_loads 217 = .ok (.iaload, 1) := by decide +kernel
theorem dX8_loads_218 : decode cX8_loads 218 = .ok (.iconst 1, 1) := by decide +kernel
theorem dX8_loads_219 : decode cX8_loads 219 = .ok (.iadd, 1) := by decide +kernel
theorem dX8_loads_220 : decode cX8_loads 220 = .ok (.iastore, 1) := by decide +kernel
theorem dX8_loads_221 : decode cX8_loads 221 = .ok (.aload_n 0, 1) := by decide +kernel
theorem dX8_loads_222 : decode cX8_loads 222 = .ok (.getfield 7, 3) := by decide +kernel
theorem dX8_loads_225 : decode cX8_loads 225 = .ok (.bipush 9, 2) := by decide +kernel
theorem dX8_loads_227 : decode cX8_loads 227 = .ok (.dup2, 1) := by decide +kernel
theorem dX8_loads_228 : decode cX8_loads 228 = .ok (.iaload, 1) := by decide +kernel
theorem dX8_loads_229 : decode cX8_loads 229 = .ok (.lload 4, 2) := by decide +kernel
theorem dX8_loads_231 : decode cX8_loads 231 = .ok (.l2i, 1) := by decide +kernel
theorem dX8_loads_232 : decode cX8_loads 232 = .ok (.iadd, 1) := by decide +kernel
theorem dX8_loads_233 : decode cX8_loads 233 = .ok (.iastore, 1) := by decide +kernel
theorem dX8_loads_234 : decode cX8_loads 234 = .ok (.aload_n 0, 1) := by decide +kernel
theorem dX8_loads_235 : decode cX8_loads 235 = .ok (.getfield 7, 3) := by decide +kernel
theorem dX8_loads_238 : decode cX8_loads 238 = .ok (.bipush 112, 2) := by decide +kernel
theorem dX8_loads_240 : decode cX8_loads 240 = .ok (.iload_n 2, 1) := by decide +kernel
theorem dX8_loads_241 : decode cX8_loads 241 = .ok (.iadd, 1) := by decide +kernel
theorem dX8_loads_242 : decode cX8_loads 242 = .ok (.dup2, 1) := by decide +kernel
theorem dX8_loads_243 : decode cX8_loads 243 = .ok (.iaload, 1) := by decide +kernel
theorem dX8_loads_244 : decode cX8_loads 244 = .ok (.iload_n 3, 1) := by decide +kernel
theorem dX8_loads_245 : decode cX8_loads 245 = .ok (.iadd, 1) := by decide +kernel
theorem dX8_loads_246 : decode cX8_loads 246 = .ok (.iastore, 1) := by decide +kernel
theorem dX8_loads_247 : decode cX8_loads 247 = .ok (.aload_n 0, 1) := by decide +kernel
theorem dX8_loads_248 : decode cX8_loads 248 = .ok (.getfield 7, 3) := by decide +kernel
theorem dX8_loads_251 : decode cX8_loads 251 = .ok (.bipush 24, 2) := by decide +kernel
theorem dX8_loads_253 : decode cX8_loads 253 = .ok (.bipush 8, 2) := by decide +kernel
theorem dX8_loads_255 : decode cX8_loads 255 = .ok (.iload_n 1, 1) := by decide +kernel
theorem dX8_loads_256 : decode cX8_loads 256 = .ok (.imul, 1) := by decide +kernel
theorem dX8_loads_257 : decode cX8_loads 257 = .ok (.iadd, 1) := by decide +kernel
theorem dX8_loads_258 : decode cX8_loads 258 = .ok (.iload_n 2, 1) := by decide +kernel
theorem dX8_loads_259 : decode cX8_loads 259 = .ok (.iadd, 1) := by decide +kernel
theorem dX8_loads_260 : decode cX8_loads 260 = .ok (.dup2, 1) := by decide +kernel
theorem dX8_loads_261 : decode cX8_loads 261 = .ok (.iaload, 1) := by decide +kernel
theorem dX8_loads_262 : decode cX8_loads 262 = .ok (.iload_n 3, 1) := by decide +kernel
theorem dX8_loads_263 : decode cX8_loads 263 = .ok (.iadd, 1) := by decide +kernel
theorem dX8_loads_264 : decode cX8_loads 264 = .ok (.iastore, 1) := by decide +kernel
theorem dX8_loads_265 : decode cX8_loads 265 = .ok (.aload_n 0, 1) := by decide +kernel
theorem dX8_loads_266 : decode cX8_loads 266 = .ok (.iload_n 1, 1) := by decide +kernel
theorem dX8_loads_267 : decode cX8_loads 267 = .ok (.invokevirtual 50, 3) := by decide +kernel
theorem dX8_loads_270 : decode cX8_loads 270 = .ok (.iload 6, 2) := by decide +kernel
theorem dX8_loads_272 : decode cX8_loads 272 = .ok (.ireturn, 1) := by decide +kernel
theorem dX8_load_0 : decode cX8_load 0 = .ok (.aload_n 0, 1) := by decide +kernel
theorem dX8_load_1 : decode cX8_load 1 = .ok (.invokevirtual 54, 3) := by decide +kernel
theorem dX8_load_4 : decode cX8_load 4 = .ok (.aload_n 0, 1) := by decide +kernel
theorem dX8_load_5 : decode cX8_load 5 = .ok (.aload_n 0, 1) := by decide +kernel
theorem dX8_load_6 : decode cX8_load 6 = .ok (.iload_n 1, 1) := by decide +kernel
theorem dX8_load_7 : decode cX8_load 7 = .ok (.iload_n 2, 1) := by decide +kernel
theorem dX8_load_8 : decode cX8_load 8 = .ok (.iload_n 3, 1) := by decide +kernel
theorem dX8_load_9 : decode cX8_load 9 = .ok (.invokevirtual 88, 3) := by decide +kernel
theorem dX8_load_12 : decode cX8_load 12 = .ok (.invokevirtual 61, 3) := by decide +kernel
theorem dX8_load_15 : decode cX8_load 15 = .ok (.ireturn, 1) := by decide +kernel
theorem dX8_sum_0 : decode cX8_sum 0 = .ok (.iconst 0, 1) := by decide +kernel
theorem dX8_sum_1 : decode cX8_sum 1 = .ok (.istore_n 2, 1) := by decide +kernel
theorem dX8_sum_2 : decode cX8_sum 2 = .ok (.iconst 0, 1) := by decide +kernel
theorem dX8_sum_3 : decode cX8_sum 3 = .ok (.istore_n 3, 1) := by decide +kernel
theorem dX8_sum_4 : decode cX8_sum 4 = .ok (.iload_n 3, 1) := by decide +kernel
theorem dX8_sum_5 : decode cX8_sum 5 = .ok (.bipush 8, 2) := by decide +kernel
theorem dX8_sum_7 : decode cX8_sum 7 = .ok (.if_icmp .ge 20, 3) := by decide +kernel
theorem dX8_sum_10 : decode cX8_sum 10 = .ok (.iload_n 2, 1) := by decide +kernel
theorem dX8_sum_11 : decode cX8_sum 11 = .ok (.aload_n 0, 1) := by decide +kernel
theorem dX8_sum_12 : decode cX8_sum 12 = .ok (.getfield 7, 3) := by decide +kernel
theorem dX8_sum_15 : decode cX8_sum 15 = .ok (.iload_n 1, 1) := by decide +kernel
theorem dX8_sum_16 : decode cX8_sum 16 = .ok (.iload_n 3, 1) := by decide +kernel
theorem dX8_sum_17 : decode cX8_sum 17 = .ok (.iadd, 1) := by decide +kernel
theorem dX8_sum_18 : decode cX8_sum 18 = .ok (.iaload, 1) := by decide +kernel
theorem dX8_sum_19 : decode cX8_sum 19 = .ok (.iadd, 1) := by decide +kernel
theorem dX8_sum_20 : decode cX8_sum 20 = .ok (.istore_n 2, 1) := by decide +kernel
theorem dX8_sum_21 : decode cX8_sum 21 = .ok (.iinc 3 1, 3) := by decide +kernel
theorem dX8_sum_24 : decode cX8_sum 24 = .ok (.goto (-20), 3) := by decide +kernel
theorem dX8_sum_27 : decode cX8_sum 27 = .ok (.iload_n 2, 1) := by decide +kernel
theorem dX8_sum_28 : decode cX8_sum 28 = .ok (.ireturn, 1) := by decide +kernel
theorem dX8_lockerOf_0 : decode cX8_lockerOf 0 = .ok (.aload_n 0, 1) := by decide +kernel
theorem dX8_lockerOf_1 : decode cX8_lockerOf 1 = .ok (.iload_n 1, 1) := by decide +kernel
theorem dX8_lockerOf_2 : decode cX8_lockerOf 2 = .ok (.invokevirtual 75, 3) := by decide +kernel
theorem dX8_lockerOf_5 : decode cX8_lockerOf 5 = .ok (.ifCond .eq 27, 3) := by decide +kernel
theorem dX8_lockerOf_8 : decode cX8_lockerOf 8 = .ok (.iload_n 2, 1) := by decide +kernel
theorem dX8_lockerOf_9 : decode cX8_lockerOf 9 = .ok (.iconst 0, 1) := by decide +kernel
theorem dX8_lockerOf_10 : decode cX8_lockerOf 10 = .ok (.bipush 11, 2) := by decide +kernel
theorem dX8_lockerOf_12 : decode cX8_lockerOf 12 = .ok (.invokestatic 22, 3) := by decide +kernel
theorem dX8_lockerOf_15 : decode cX8_lockerOf 15 = .ok (.ifCond .eq 17, 3) := by decide +kernel
theorem dX8_lockerOf_18 : decode cX8_lockerOf 18 = .ok (.iload_n 2, 1) := by decide +kernel
theorem dX8_lockerOf_19 : decode cX8_lockerOf 19 = .ok (.bipush 8, 2) := by decide +kernel
theorem dX8_lockerOf_21 : decode cX8_lockerOf 21 = .ok (.if_icmp .ge 13, 3) := by decide +kernel
theorem dX8_lockerOf_24 : decode cX8_lockerOf 24 = .ok (.aload_n 0, 1) := by decide +kernel
theorem dX8_lockerOf_25 : decode cX8_lockerOf 25 = .ok (.iload_n 2, 1) := by decide +kernel
theorem dX8_lockerOf_26 : decode cX8_lockerOf 26 = .ok (.invokevirtual 72, 3) := by decide +kernel
theorem dX8_lockerOf_29 : decode cX8_lockerOf 29 = .ok (.ifCond .ne 5, 3) := by decide +kernel
theorem dX8_lockerOf_32 : decode cX8_lockerOf 32 = .ok (.iconst (-1), 1) := by decide +kernel
theorem dX8_lockerOf_33 : decode cX8_lockerOf 33 = .ok (.ireturn, 1) := by decide +kernel
theorem dX8_lockerOf_34 : decode cX8_lockerOf 34 = .ok (.bipush 24, 2) := by decide +kernel
theorem dX8_lockerOf_36 : decode cX8_lockerOf 36 = .ok (.bipush 8, 2) := by decide +kernel
theorem dX8_lockerOf_38 : decode cX8_lockerOf 38 = .ok (.iload_n 1, 1) := by decide +kernel
theorem dX8_lockerOf_39 : decode cX8_lockerOf 39 = .ok (.imul, 1) := by decide +kernel
theorem dX8_lockerOf_40 : decode cX8_lockerOf 40 = .ok (.iadd, 1) := by decide +kernel
theorem dX8_lockerOf_41 : decode cX8_lockerOf 41 = .ok (.istore_n 3, 1) := by decide +kernel
theorem dX8_lockerOf_42 : decode cX8_lockerOf 42 = .ok (.iload_n 2, 1) := by decide +kernel
theorem dX8_lockerOf_43 : decode cX8_lockerOf 43 = .ok (.tableswitch 85 8 11 #[29, 39, 67, 73], 29) := by decide +kernel
theorem dX8_lockerOf_72 : decode cX8_lockerOf 72 = .ok (.aload_n 0, 1) := by decide +kernel
theorem dX8_lockerOf_73 : decode cX8_lockerOf 73 = .ok (.getfield 7, 3) := by decide +kernel
theorem dX8_lockerOf_76 : decode cX8_lockerOf 76 = .ok (.bipush 14, 2) := by decide +kernel
theorem dX8_lockerOf_78 : decode cX8_lockerOf 78 = .ok (.iload_n 1, 1) := by decide +kernel
theorem dX8_lockerOf_79 : decode cX8_lockerOf 79 = .ok (.iadd, 1) := by decide +kernel
theorem dX8_lockerOf_80 : decode cX8_lockerOf 80 = .ok (.iaload, 1) := by decide +kernel
theorem dX8_lockerOf_81 : decode cX8_lockerOf 81 = .ok (.ireturn, 1) := by decide +kernel
theorem dX8_lockerOf_82 : decode cX8_lockerOf 82 = .ok (.aload_n 0, 1) := by decide +kernel
theorem dX8_lockerOf_83 : decode cX8_lockerOf 83 = .ok (.getfield 7, 3) := by decide +kernel
theorem dX8_lockerOf_86 : decode cX8_lockerOf 86 = .ok (.bipush 14, 2) := by decide +kernel
theorem dX8_lockerOf_88 : decode cX8_lockerOf 88 = .ok (.iload_n 1, 1) := by decide +kernel
theorem dX8_lockerOf_89 : decode cX8_lockerOf 89 = .ok (.iadd, 1) := by decide +kernel
theorem dX8_lockerOf_90 : decode cX8_lockerOf 90 = .ok (.iaload, 1) := by decide +kernel
theorem dX8_lockerOf_91 : decode cX8_lockerOf 91 = .ok (.iconst 1, 1) := by decide +kernel
theorem dX8_lockerOf_92 : decode cX8_lockerOf 92 = .ok (.if_icmp .ne 15, 3) := by decide +kernel
theorem dX8_lockerOf_95 : decode cX8_lockerOf 95 = .ok (.aload_n 0, 1) := by decide +kernel
theorem dX8_lockerOf_96 : decode cX8_lockerOf 96 = .ok (.getfield 7, 3) := by decide +kernel
theorem dX8_lockerOf_99 : decode cX8_lockerOf 99 = .ok (.bipush 19, 2) := by decide +kernel
theorem dX8_lockerOf_101 : decode cX8_lockerOf 101 = .ok (.iload_n 1, 1) := by decide +kernel
theorem dX8_lockerOf_102 : decode cX8_lockerOf 102 = .ok (.iadd, 1) := by decide +kernel
theorem dX8_lockerOf_103 : decode cX8_lockerOf 103 = .ok (.iaload, 1) := by decide +kernel
theorem dX8_lockerOf_104 : decode cX8_lockerOf 104 = .ok (.goto 5, 3) := by decide +kernel
theorem dX8_lockerOf_107 : decode cX8_lockerOf 107 = .ok (.bipush (-4), 2) := by decide +kernel
theorem dX8_lockerOf_109 : decode cX8_lockerOf 109 = .ok (.ireturn, 1) := by decide +kernel
theorem dX8_lockerOf_110 : decode cX8_lockerOf 110 = .ok (.aload_n 0, 1) := by decide +kernel
theorem dX8_lockerOf_111 : decode cX8_lockerOf 111 = .ok (.iload_n 3, 1) := by decide +kernel
theorem dX8_lockerOf_112 : decode cX8_lockerOf 112 = .ok (.invokevirtual 91, 3) := by decide +kernel
theorem dX8_lockerOf_115 : decode cX8_lockerOf 115 = .ok (.ireturn, 1) := by decide +kernel
theorem dX8_lockerOf_116 : decode cX8_lockerOf 116 = .ok (.aload_n 0, 1) := by decide +kernel
theorem dX8_lockerOf_117 : decode cX8_lockerOf 117 = .ok (.bipush 64, 2) := by decide +kernel
theorem dX8_lockerOf_119 : decode cX8_lockerOf 119 = .ok (.bipush 8, 2) := by decide +kernel
theorem dX8_lockerOf_121 : decode cX8_lockerOf 121 = .ok (.iload_n 1, 1) := by decide +kernel
theorem dX8_lockerOf_122 : decode cX8_lockerOf 122 = .ok (.imul, 1) := by decide +kernel
theorem dX8_lockerOf_123 : decode cX8_lockerOf 123 = .ok (.iadd, 1) := by decide +kernel
theorem dX8_lockerOf_124 : decode cX8_lockerOf 124 = .ok (.invokevirtual 91, 3) := by decide +kernel
theorem dX8_lockerOf_127 : decode cX8_lockerOf 127 = .ok (.ireturn, 1) := by decide +kernel
theorem dX8_lockerOf_128 : decode cX8_lockerOf 128 = .ok (.aload_n 0, 1) := by decide +kernel
theorem dX8_lockerOf_129 : decode cX8_lockerOf 129 = .ok (.getfield 7, 3) := by decide +kernel
theorem dX8_lockerOf_132 : decode cX8_lockerOf 132 = .ok (.iload_n 3, 1) := by decide +kernel
theorem dX8_lockerOf_133 : decode cX8_lockerOf 133 = .ok (.iload_n 2, 1) := by decide +kernel
theorem dX8_lockerOf_134 : decode cX8_lockerOf 134 = .ok (.iadd, 1) := by decide +kernel
theorem dX8_lockerOf_135 : decode cX8_lockerOf 135 = .ok (.iaload, 1) := by decide +kernel
theorem dX8_lockerOf_136 : decode cX8_lockerOf 136 = .ok (.ireturn, 1) := by decide +kernel
theorem dX8_missing_0 : decode cX8_missing 0 = .ok (.aload_n 0, 1) := by decide +kernel
theorem dX8_missing_1 : decode cX8_missing 1 = .ok (.iload_n 1, 1) := by decide +kernel
theorem dX8_missing_2 : decode cX8_missing 2 = .ok (.invokevirtual 75, 3) := by decide +kernel
theorem dX8_missing_5 : decode cX8_missing 5 = .ok (.ifCond .eq 28, 3) := by decide +kernel
theorem dX8_missing_8 : decode cX8_missing 8 = .ok (.aload_n 0, 1) := by decide +kernel
theorem dX8_missing_9 : decode cX8_missing 9 = .ok (.iload_n 2, 1) := by decide +kernel
theorem dX8_missing_10 : decode cX8_missing 10 = .ok (.invokevirtual 72, 3) := by decide +kernel
theorem dX8_missing_13 : decode cX8_missing 13 = .ok (.ifCond .eq 20, 3) := by decide +kernel
theorem dX8_missing_16 : decode cX8_missing 16 = .ok (.aload_n 0, 1) := by decide +kernel
theorem dX8_missing_17 : decode cX8_missing 17 = .ok (.getfield 7, 3) := by decide +kernel
theorem dX8_missing_20 : decode cX8_missing 20 = .ok (.bipush 64, 2) := by decide +kernel
theorem dX8_missing_22 : decode cX8_missing 22 = .ok (.bipush 8, 2) := by decide +kernel
theorem dX8_missing_24 : decode cX8_missing 24 = .ok (.iload_n 1, 1) := by decide +kernel
theorem dX8_missing_25 : decode cX8_missing 25 = .ok (.imul, 1) := by decide +kernel
theorem dX8_missing_26 : decode cX8_missing 26 = .ok (.iadd, 1) := by decide +kernel
theorem dX8_missing_27 : decode cX8_missing 27 = .ok (.iload_n 2, 1) := by decide +kernel
theorem dX8_missing_28 : decode cX8_missing 28 = .ok (.iadd, 1) := by decide +kernel
theorem dX8_missing_29 : decode cX8_missing 29 = .ok (.iaload, 1) := by decide +kernel
theorem dX8_missing_30 : decode cX8_missing 30 = .ok (.goto 4, 3) := by decide +kernel
theorem dX8_missing_33 : decode cX8_missing 33 = .ok (.iconst (-1), 1) := by decide +kernel
theorem dX8_missing_34 : decode cX8_missing 34 = .ok (.ireturn, 1) := by decide +kernel
theorem dX8_seal_0 : decode cX8_seal 0 = .ok (.iload_n 1, 1) := by decide +kernel
theorem dX8_seal_1 : decode cX8_seal 1 = .ok (.iconst 1, 1) := by decide +kernel
theorem dX8_seal_2 : decode cX8_seal 2 = .ok (.aload_n 0, 1) := by decide +kernel
theorem dX8_seal_3 : decode cX8_seal 3 = .ok (.getfield 7, 3) := by decide +kernel
theorem dX8_seal_6 : decode cX8_seal 6 = .ok (.bipush 7, 2) := by decide +kernel
theorem dX8_seal_8 : decode cX8_seal 8 = .ok (.iaload, 1) := by decide +kernel
theorem dX8_seal_9 : decode cX8_seal 9 = .ok (.invokestatic 22, 3) := by decide +kernel
theorem dX8_seal_12 : decode cX8_seal 12 = .ok (.ifCond .eq 12, 3) := by decide +kernel
theorem dX8_seal_15 : decode cX8_seal 15 = .ok (.iload_n 2, 1) := by decide +kernel
theorem dX8_seal_16 : decode cX8_seal 16 = .ok (.iconst 0, 1) := by decide +kernel
theorem dX8_seal_17 : decode cX8_seal 17 = .ok (.iconst 2, 1) := by decide +kernel
theorem dX8_seal_18 : decode cX8_seal 18 = .ok (.invokestatic 22, 3) := by decide +kernel
theorem dX8_seal_21 : decode cX8_seal 21 = .ok (.ifCond .ne 5, 3) := by decide +kernel
theorem dX8_seal_24 : decode cX8_seal 24 = .ok (.iconst (-1), 1) := by decide +kernel
theorem dX8_seal_25 : decode cX8_seal 25 = .ok (.ireturn, 1) := by decide +kernel
theorem dX8_seal_26 : decode cX8_seal 26 = .ok (.iload_n 2, 1) := by decide +kernel
theorem dX8_seal_27 : decode cX8_seal 27 = .ok (.ifCond .ne 16, 3) := by decide +kernel
theorem dX8_seal_30 : decode cX8_seal 30 = .ok (.aload_n 0, 1) := by decide +kernel
theorem dX8_seal_31 : decode cX8_seal 31 = .ok (.getfield 7, 3) := by decide +kernel
theorem dX8_seal_34 : decode cX8_seal 34 = .ok (.sipush 452, 3) := by decide +kernel
theorem dX8_seal_37 : decode cX8_seal 37 = .ok (.iload_n 1, 1) := by decide +kernel
theorem dX8_seal_38 : decode cX8_seal 38 = .ok (.iadd, 1) := by decide +kernel
theorem dX8_seal_39 : decode cX8_seal 39 = .ok (.iaload, 1) := by decide +kernel
theorem dX8_seal_40 : decode cX8_seal 40 = .ok (.goto 31, 3) := by decide +kernel
theorem dX8_seal_43 : decode cX8_seal 43 = .ok (.iload_n 2, 1) := by decide +kernel
theorem dX8_seal_44 : decode cX8_seal 44 = .ok (.iconst 1, 1) := by decide +kernel
theorem dX8_seal_45 : decode cX8_seal 45 = .ok (.if_icmp .ne 16, 3) := by decide +kernel
theorem dX8_seal_48 : decode cX8_seal 48 = .ok (.aload_n 0, 1) := by decide +kernel
theorem dX8_seal_49 : decode cX8_seal 49 = .ok (.getfield 7, 3) := by decide +kernel
theorem dX8_seal_52 : decode cX8_seal 52 = .ok (.sipush 653, 3) := by decide +kernel
theorem dX8_seal_55 : decode cX8_seal 55 = .ok (.iload_n 1, 1) := by decide +kernel
theorem dX8_seal_56 : decode cX8_seal 56 = .ok (.iadd, 1) := by decide +kernel
theorem dX8_seal_57 : decode cX8_seal 57 = .ok (.iaload, 1) := by decide +kernel
theorem dX8_seal_58 : decode cX8_seal 58 = .ok (.goto 13, 3) := by decide +kernel
theorem dX8_seal_61 : decode cX8_seal 61 = .ok (.aload_n 0, 1) := by decide +kernel
theorem dX8_seal_62 : decode cX8_seal 62 = .ok (.getfield 7, 3) := by decide +kernel
theorem dX8_seal_65 : decode cX8_seal 65 = .ok (.sipush 854, 3) := by decide +kernel
theorem dX8_seal_68 : decode cX8_seal 68 = .ok (.iload_n 1, 1) := by decide +kernel
theorem dX8_seal_69 : decode cX8_seal 69 = .ok (.iadd, 1) := by decide +kernel
theorem dX8_seal_70 : decode cX8_seal 70 = .ok (.iaload, 1) := by decide +kernel
theorem dX8_seal_71 : decode cX8_seal 71 = .ok (.ireturn, 1) := by decide +kernel
theorem dX8_bond_0 : decode cX8_bond 0 = .ok (.iload_n 1, 1) := by decide +kernel
theorem dX8_bond_1 : decode cX8_bond 1 = .ok (.iconst 0, 1) := by decide +kernel
theorem dX8_bond_2 : decode cX8_bond 2 = .ok (.aload_n 0, 1) := by decide +kernel
theorem dX8_bond_3 : decode cX8_bond 3 = .ok (.getfield 7, 3) := by decide +kernel
theorem dX8_bond_6 : decode cX8_bond 6 = .ok (.bipush 6, 2) := by decide +kernel
theorem dX8_bond_8 : decode cX8_bond 8 = .ok (.iaload, 1) := by decide +kernel
theorem dX8_bond_9 : decode cX8_bond 9 = .ok (.iconst 1, 1) := by decide +kernel
theorem dX8_bond_10 : decode cX8_bond 10 = .ok (.isub, 1) := by decide +kernel
theorem dX8_bond_11 : decode cX8_bond 11 = .ok (.invokestatic 22, 3) := by decide +kernel
theorem dX8_bond_14 : decode cX8_bond 14 = .ok (.ifCond .eq 12, 3) := by decide +kernel
theorem dX8_bond_17 : decode cX8_bond 17 = .ok (.iload_n 2, 1) := by decide +kernel
theorem dX8_bond_18 : decode cX8_bond 18 = .ok (.iconst 0, 1) := by decide +kernel
theorem dX8_bond_19 : decode cX8_bond 19 = .ok (.iconst 5, 1) := by decide +kernel
theorem dX8_bond_20 : decode cX8_bond 20 = .ok (.invokestatic 22, 3) := by decide +kernel
theorem dX8_bond_23 : decode cX8_bond 23 = .ok (.ifCond .ne 5, 3) := by decide +kernel
theorem dX8_bond_26 : decode cX8_bond 26 = .ok (.iconst (-1), 1) := by decide +kernel
theorem dX8_bond_27 : decode cX8_bond 27 = .ok (.ireturn, 1) := by decide +kernel
theorem dX8_bond_28 : decode cX8_bond 28 = .ok (.iload_n 2, 1) := by decide +kernel
theorem dX8_bond_29 : decode cX8_bond 29 = .ok (.tableswitch 101 0 4 #[35, 46, 57, 68, 79], 35) := by decide +kernel
theorem dX8_bond_64 : decode cX8_bond 64 = .ok (.aload_n 0, 1) := by decide +kernel
theorem dX8_bond_65 : decode cX8_bond 65 = .ok (.getfield 7, 3) := by decide +kernel
theorem dX8_bond_68 : decode cX8_bond 68 = .ok (.sipush 152, 3) := by decide +kernel
theorem dX8_bond_71 : decode cX8_bond 71 = .ok (.iload_n 1, 1) := by decide +kernel
theorem dX8_bond_72 : decode cX8_bond 72 = .ok (.iadd, 1) := by decide +kernel
theorem dX8_bond_73 : decode cX8_bond 73 = .ok (.iaload, 1) := by decide +kernel
theorem dX8_bond_74 : decode cX8_bond 74 = .ok (.ireturn, 1) := by decide +kernel
theorem dX8_bond_75 : decode cX8_bond 75 = .ok (.aload_n 0, 1) := by decide +kernel
theorem dX8_bond_76 : decode cX8_bond 76 = .ok (.getfield 7, 3) := by decide +kernel
theorem dX8_bond_79 : decode cX8_bond 79 = .ok (.sipush 212, 3) := by decide +kernel
theorem dX8_bond_82 : decode cX8_bond 82 = .ok (.iload_n 1, 1) := by decide +kernel
theorem dX8_bond_83 : decode cX8_bond 83 = .ok (.iadd, 1) := by decide +kernel
theorem dX8_bond_84 : decode cX8_bond 84 = .ok (.iaload, 1) := by decide +kernel
theorem dX8_bond_85 : decode cX8_bond 85 = .ok (.ireturn, 1) := by decide +kernel
theorem dX8_bond_86 : decode cX8_bond 86 = .ok (.aload_n 0, 1) := by decide +kernel
theorem dX8_bond_87 : decode cX8_bond 87 = .ok (.getfield 7, 3) := by decide +kernel
theorem dX8_bond_90 : decode cX8_bond 90 = .ok (.sipush 272, 3) := by decide +kernel
theorem dX8_bond_93 : decode cX8_bond 93 = .ok (.iload_n 1, 1) := by decide +kernel
theorem dX8_bond_94 : decode cX8_bond 94 = .ok (.iadd, 1) := by decide +kernel
theorem dX8_bond_95 : decode cX8_bond 95 = .ok (.iaload, 1) := by decide +kernel
theorem dX8_bond_96 : decode cX8_bond 96 = .ok (.ireturn, 1) := by decide +kernel
theorem dX8_bond_97 : decode cX8_bond 97 = .ok (.aload_n 0, 1) := by decide +kernel
theorem dX8_bond_98 : decode cX8_bond 98 = .ok (.getfield 7, 3) := by decide +kernel
theorem dX8_bond_101 : decode cX8_bond 101 = .ok (.sipush 332, 3) := by decide +kernel
theorem dX8_bond_104 : decode cX8_bond 104 = .ok (.iload_n 1, 1) := by decide +kernel
theorem dX8_bond_105 : decode cX8_bond 105 = .ok (.iadd, 1) := by decide +kernel
theorem dX8_bond_106 : decode cX8_bond 106 = .ok (.iaload, 1) := by decide +kernel
theorem dX8_bond_107 : decode cX8_bond 107 = .ok (.ireturn, 1) := by decide +kernel
theorem dX8_bond_108 : decode cX8_bond 108 = .ok (.aload_n 0, 1) := by decide +kernel
theorem dX8_bond_109 : decode cX8_bond 109 = .ok (.getfield 7, 3) := by decide +kernel
theorem dX8_bond_112 : decode cX8_bond 112 = .ok (.sipush 272, 3) := by decide +kernel
theorem dX8_bond_115 : decode cX8_bond 115 = .ok (.iload_n 1, 1) := by decide +kernel
theorem dX8_bond_116 : decode cX8_bond 116 = .ok (.iadd, 1) := by decide +kernel
theorem dX8_bond_117 : decode cX8_bond 117 = .ok (.iaload, 1) := by decide +kernel
theorem dX8_bond_118 : decode cX8_bond 118 = .ok (.aload_n 0, 1) := by decide +kernel
theorem dX8_bond_119 : decode cX8_bond 119 = .ok (.getfield 7, 3) := by decide +kernel
theorem dX8_bond_122 : decode cX8_bond 122 = .ok (.sipush 332, 3) := by decide +kernel
theorem dX8_bond_125 : decode cX8_bond 125 = .ok (.iload_n 1, 1) := by decide +kernel
theorem dX8_bond_126 : decode cX8_bond 126 = .ok (.iadd, 1) := by decide +kernel
theorem dX8_bond_127 : decode cX8_bond 127 = .ok (.iaload, 1) := by decide +kernel
theorem dX8_bond_128 : decode cX8_bond 128 = .ok (.imul, 1) := by decide +kernel
theorem dX8_bond_129 : decode cX8_bond 129 = .ok (.ireturn, 1) := by decide +kernel
theorem dX8_bond_130 : decode cX8_bond 130 = .ok (.aload_n 0, 1) := by decide +kernel
theorem dX8_bond_131 : decode cX8_bond 131 = .ok (.getfield 7, 3) := by decide +kernel
theorem dX8_bond_134 : decode cX8_bond 134 = .ok (.sipush 392, 3) := by decide +kernel
theorem dX8_bond_137 : decode cX8_bond 137 = .ok (.iload_n 1, 1) := by decide +kernel
theorem dX8_bond_138 : decode cX8_bond 138 = .ok (.iadd, 1) := by decide +kernel
theorem dX8_bond_139 : decode cX8_bond 139 = .ok (.iaload, 1) := by decide +kernel
theorem dX8_bond_140 : decode cX8_bond 140 = .ok (.ireturn, 1) := by decide +kernel
theorem dX8_nextBond_0 : decode cX8_nextBond 0 = .ok (.aload_n 0, 1) := by decide +kernel
theorem dX8_nextBond_1 : decode cX8_nextBond 1 = .ok (.iload_n 1, 1) := by decide +kernel
theorem dX8_nextBond_2 : decode cX8_nextBond 2 = .ok (.invokevirtual 72, 3) := by decide +kernel
theorem dX8_nextBond_5 : decode cX8_nextBond 5 = .ok (.ifCond .eq 12, 3) := by decide +kernel
theorem dX8_nextBond_8 : decode cX8_nextBond 8 = .ok (.aload_n 0, 1) := by decide +kernel
theorem dX8_nextBond_9 : decode cX8_nextBond 9 = .ok (.iload_n 1, 1) := by decide +kernel
theorem dX8_nextBond_10 : decode cX8_nextBond 10 = .ok (.iconst (-1), 1) := by decide +kernel
theorem dX8_nextBond_11 : decode cX8_nextBond 11 = .ok (.invokevirtual 33, 3) := by decide +kernel
theorem dX8_nextBond_14 : decode cX8_nextBond 14 = .ok (.goto 4, 3) := by decide +kernel
theorem dX8_nextBond_17 : decode cX8_nextBond 17 = .ok (.iconst (-1), 1) := by decide +kernel
theorem dX8_nextBond_18 : decode cX8_nextBond 18 = .ok (.ireturn, 1) := by decide +kernel
theorem dX8_uses_0 : decode cX8_uses 0 = .ok (.aload_n 0, 1) := by decide +kernel
theorem dX8_uses_1 : decode cX8_uses 1 = .ok (.iload_n 1, 1) := by decide +kernel
theorem dX8_uses_2 : decode cX8_uses 2 = .ok (.iload_n 2, 1) := by decide +kernel
theorem dX8_uses_3 : decode cX8_uses 3 = .ok (.iload_n 3, 1) := by decide +kernel
theorem dX8_uses_4 : decode cX8_uses 4 = .ok (.invokevirtual 78, 3) := by decide +kernel
theorem dX8_uses_7 : decode cX8_uses 7 = .ok (.ifCond .ne 5, 3) := by decide +kernel
theorem dX8_uses_10 : decode cX8_uses 10 = .ok (.iconst (-1), 1) := by decide +kernel
theorem dX8_uses_11 : decode cX8_uses 11 = .ok (.ireturn, 1) := by decide +kernel
theorem dX8_uses_12 : decode cX8_uses 12 = .ok (.bipush 24, 2) := by decide +kernel
theorem dX8_uses_14 : decode cX8_uses 14 = .ok (.bipush 8, 2) := by decide +kernel
theorem dX8_uses_16 : decode cX8_uses 16 = .ok (.iload_n 1, 1) := by decide +kernel
theorem dX8_uses_17 : decode cX8_uses 17 = .ok (.imul, 1) := by decide +kernel
theorem dX8_uses_18 : decode cX8_uses 18 = .ok (.iadd, 1) := by decide +kernel
theorem dX8_uses_19 : decode cX8_uses 19 = .ok (.iload_n 2, 1) := by decide +kernel
theorem dX8_uses_20 : decode cX8_uses 20 = .ok (.iadd, 1) := by decide +kernel
theorem dX8_uses_21 : decode cX8_uses 21 = .ok (.istore 4, 2) := by decide +kernel
theorem dX8_uses_23 : decode cX8_uses 23 = .ok (.aload_n 0, 1) := by decide +kernel
theorem dX8_uses_24 : decode cX8_uses 24 = .ok (.getfield 7, 3) := by decide +kernel
theorem dX8_uses_27 : decode cX8_uses 27 = .ok (.iconst 0, 1) := by decide +kernel
theorem dX8_uses_28 : decode cX8_uses 28 = .ok (.iaload, 1) := by decide +kernel
theorem dX8_uses_29 : decode cX8_uses 29 = .ok (.ifCond .ne 14, 3) := by decide +kernel
theorem dX8_uses_32 : decode cX8_uses 32 = .ok (.aload_n 0, 1) := by decide +kernel
theorem dX8_uses_33 : decode cX8_uses 33 = .ok (.getfield 7, 3) := by decide +kernel
theorem dX8_uses_36 : decode cX8_uses 36 = .ok (.iload 4, 2) := by decide +kernel
theorem dX8_uses_38 : decode cX8_uses 38 = .ok (.iaload, 1) := by decide +kernel
theorem dX8_uses_39 : decode cX8_uses 39 = .ok (.iload_n 3, 1) := by decide +kernel
theorem dX8_uses_40 : decode cX8_uses 40 = .ok (.if_icmp .ge 6, 3) := by decide +kernel
theorem dX8_uses_43 : decode cX8_uses 43 = .ok (.bipush (-2), 2) := by decide +kernel
theorem dX8_uses_45 : decode cX8_uses 45 = .ok (.ireturn, 1) := by decide +kernel
theorem dX8_uses_46 : decode cX8_uses 46 = .ok (.aload_n 0, 1) := by decide +kernel
theorem dX8_uses_47 : decode cX8_uses 47 = .ok (.getfield 7, 3) := by decide +kernel
theorem dX8_uses_50 : decode cX8_uses 50 = .ok (.iload 4, 2) := by decide +kernel
theorem dX8_uses_52 : decode cX8_uses 52 = .ok (.dup2, 1) := by decide +kernel
theorem dX8_uses_53 : decode cX8_uses 53 = .ok (.iaload, 1) := by decide +kernel
theorem dX8_uses_54 : decode cX8_uses 54 = .ok (.iload_n 3, 1) := by decide +kernel
theorem dX8_uses_55 : decode cX8_uses 55 = .ok (.isub, 1) := by decide +kernel
theorem dX8_uses_56 : decode cX8_uses 56 = .ok (.iastore, 1) := by decide +kernel
theorem dX8_uses_57 : decode cX8_uses 57 = .ok (.aload_n 0, 1) := by decide +kernel
theorem dX8_uses_58 : decode cX8_uses 58 = .ok (.iload_n 2, 1) := by decide +kernel
theorem dX8_uses_59 : decode cX8_uses 59 = .ok (.iload_n 3, 1) := by decide +kernel
theorem dX8_uses_60 : decode cX8_uses 60 = .ok (.iconst 0, 1) := by decide +kernel
theorem dX8_uses_61 : decode cX8_uses 61 = .ok (.invokevirtual 94, 3) := by decide +kernel
theorem dX8_uses_64 : decode cX8_uses 64 = .ok (.ireturn, 1) := by decide +kernel
theorem dX8_use_0 : decode cX8_use 0 = .ok (.aload_n 0, 1) := by decide +kernel
theorem dX8_use_1 : decode cX8_use 1 = .ok (.invokevirtual 54, 3) := by decide +kernel
theorem dX8_use_4 : decode cX8_use 4 = .ok (.aload_n 0, 1) := by decide +kernel
theorem dX8_use_5 : decode cX8_use 5 = .ok (.aload_n 0, 1) := by decide +kernel
theorem dX8_use_6 : decode cX8_use 6 = .ok (.iload_n 1, 1) := by decide +kernel
theorem dX8_use_7 : decode cX8_use 7 = .ok (.iload_n 2, 1) := by decide +kernel
theorem dX8_use_8 : decode cX8_use 8 = .ok (.iload_n 3, 1) := by decide +kernel
theorem dX8_use_9 : decode cX8_use 9 = .ok (.invokevirtual 97, 3) := by decide +kernel
theorem dX8_use_12 : decode cX8_use 12 = .ok (.invokevirtual 61, 3) := by decide +kernel
theorem dX8_use_15 : decode cX8_use 15 = .ok (.ireturn, 1) := by decide +kernel
theorem dX8_brings_0 : decode cX8_brings 0 = .ok (.aload_n 0, 1) := by decide +kernel
theorem dX8_brings_1 : decode cX8_brings 1 = .ok (.iload_n 1, 1) := by decide +kernel
theorem dX8_brings_2 : decode cX8_brings 2 = .ok (.iload_n 2, 1) := by decide +kernel
theorem dX8_brings_3 : decode cX8_brings 3 = .ok (.iload_n 3, 1) := by decide +kernel
theorem dX8_brings_4 : decode cX8_brings 4 = .ok (.invokevirtual 78, 3) := by decide +kernel
theorem dX8_brings_7 : decode cX8_brings 7 = .ok (.ifCond .ne 5, 3) := by decide +kernel
theorem dX8_brings_10 : decode cX8_brings 10 = .ok (.iconst (-1), 1) := by decide +kernel
theorem dX8_brings_11 : decode cX8_brings 11 = .ok (.ireturn, 1) := by decide +kernel
theorem dX8_brings_12 : decode cX8_brings 12 = .ok (.bipush 24, 2) := by decide +kernel
theorem dX8_brings_14 : decode cX8_brings 14 = .ok (.bipush 8, 2) := by decide +kernel
theorem dX8_brings_16 : decode cX8_brings 16 = .ok (.iload_n 1, 1) := by decide +kernel
theorem dX8_brings_17 : decode cX8_brings 17 = .ok (.imul, 1) := by decide +kernel
theorem dX8_brings_18 : decode cX8_brings 18 = .ok (.iadd, 1) := by decide +kernel
theorem dX8_brings_19 : decode cX8_brings 19 = .ok (.iload_n 2, 1) := by decide +kernel
theorem dX8_brings_20 : decode cX8_brings 20 = .ok (.iadd, 1) := by decide +kernel
theorem dX8_brings_21 : decode cX8_brings 21 = .ok (.istore 4, 2) := by decide +kernel
theorem dX8_brings_23 : decode cX8_brings 23 = .ok (.aload_n 0, 1) := by decide +kernel
theorem dX8_brings_24 : decode cX8_brings 24 = .ok (.getfield 7, 3) := by decide +kernel
theorem dX8_brings_27 : decode cX8_brings 27 = .ok (.iconst 0, 1) := by decide +kernel
theorem dX8_brings_28 : decode cX8_brings 28 = .ok (.iaload, 1) := by decide +kernel
theorem dX8_brings_29 : decode cX8_brings 29 = .ok (.iconst 2, 1) := by decide +kernel
theorem dX8_brings_30 : decode cX8_brings 30 = .ok (.if_icmp .ne 27, 3) := by decide +kernel
theorem dX8_brings_33 : decode cX8_brings 33 = .ok (.aload_n 0, 1) := by decide +kernel
theorem dX8_brings_34 : decode cX8_brings 34 = .ok (.getfield 7, 3) := by decide +kernel
theorem dX8_brings_37 : decode cX8_brings 37 = .ok (.bipush 14, 2) := by decide +kernel
theorem dX8_brings_39 : decode cX8_brings 39 = .ok (.iload_n 1, 1) := by decide +kernel
theorem dX8_brings_40 : decode cX8_brings 40 = .ok (.iadd, 1) := by decide +kernel
theorem dX8_brings_41 : decode cX8_brings 41 = .ok (.iaload, 1) := by decide +kernel
theorem dX8_brings_42 : decode cX8_brings 42 = .ok (.iconst 2, 1) := by decide +kernel
theorem dX8_brings_43 : decode cX8_brings 43 = .ok (.if_icmp .eq 14, 3) := by decide +kernel
theorem dX8_brings_46 : decode cX8_brings 46 = .ok (.aload_n 0, 1) := by decide +kernel
theorem dX8_brings_47 : decode cX8_brings 47 = .ok (.getfield 7, 3) := by decide +kernel
theorem dX8_brings_50 : decode cX8_brings 50 = .ok (.iload 4, 2) := by decide +kernel
theorem dX8_brings_52 : decode cX8_brings 52 = .ok (.iaload, 1) := by decide +kernel
theorem dX8_brings_53 : decode cX8_brings 53 = .ok (.iload_n 3, 1) := by decide +kernel
theorem dX8_brings_54 : decode cX8_brings 54 = .ok (.if_icmp .ge 6, 3) := by decide +kernel
theorem dX8_brings_57 : decode cX8_brings 57 = .ok (.bipush (-2), 2) := by decide +kernel
theorem dX8_brings_59 : decode cX8_brings 59 = .ok (.ireturn, 1) := by decide +kernel
theorem dX8_brings_60 : decode cX8_brings 60 = .ok (.aload_n 0, 1) := by decide +kernel
theorem dX8_brings_61 : decode cX8_brings 61 = .ok (.iconst 1, 1) := by decide +kernel
theorem dX8_brings_62 : decode cX8_brings 62 = .ok (.invokevirtual 46, 3) := by decide +kernel
theorem dX8_brings_65 : decode cX8_brings 65 = .ok (.ifCond .ne 6, 3) := by decide +kernel
theorem dX8_brings_68 : decode cX8_brings 68 = .ok (.bipush (-3), 2) := by decide +kernel
theorem dX8_brings_70 : decode cX8_brings 70 = .ok (.ireturn, 1) := by decide +kernel
theorem dX8_brings_71 : decode cX8_brings 71 = .ok (.aload_n 0, 1) := by decide +kernel
theorem dX8_brings_72 : decode cX8_brings 72 = .ok (.iload_n 1, 1) := by decide +kernel
theorem dX8_brings_73 : decode cX8_brings 73 = .ok (.iconst 2, 1) := by decide +kernel
theorem dX8_brings_74 : decode cX8_brings 74 = .ok (.invokevirtual 84, 3) := by decide +kernel
theorem dX8_brings_77 : decode cX8_brings 77 = .ok (.aload_n 0, 1) := by decide +kernel
theorem dX8_brings_78 : decode cX8_brings 78 = .ok (.getfield 7, 3) := by decide +kernel
theorem dX8_brings_81 : decode cX8_brings 81 = .ok (.iload 4, 2) := by decide +kernel
theorem dX8_brings_83 : decode cX8_brings 83 = .ok (.dup2, 1) := by decide +kernel
theorem dX8_brings_84 : decode cX8_brings 84 = .ok (.iaload, 1) := by decide +kernel
theorem dX8_brings_85 : decode cX8_brings 85 = .ok (.iload_n 3, 1) := by decide +kernel
theorem dX8_brings_86 : decode cX8_brings 86 = .ok (.isub, 1) := by decide +kernel
theorem dX8_brings_87 : decode cX8_brings 87 = .ok (.iastore, 1) := by decide +kernel
theorem dX8_brings_88 : decode cX8_brings 88 = .ok (.aload_n 0, 1) := by decide +kernel
theorem dX8_brings_89 : decode cX8_brings 89 = .ok (.iload_n 1, 1) := by decide +kernel
theorem dX8_brings_90 : decode cX8_brings 90 = .ok (.invokevirtual 50, 3) := by decide +kernel
theorem dX8_brings_93 : decode cX8_brings 93 = .ok (.aload_n 0, 1) := by decide +kernel
theorem dX8_brings_94 : decode cX8_brings 94 = .ok (.iload_n 2, 1) := by decide +kernel
theorem dX8_brings_95 : decode cX8_brings 95 = .ok (.iload_n 3, 1) := by decide +kernel
theorem dX8_brings_96 : decode cX8_brings 96 = .ok (.iconst 1, 1) := by decide +kernel
theorem dX8_brings_97 : decode cX8_brings 97 = .ok (.invokevirtual 94, 3) := by decide +kernel
theorem dX8_brings_100 : decode cX8_brings 100 = .ok (.ireturn, 1) := by decide +kernel
theorem dX8_bring_0 : decode cX8_bring 0 = .ok (.aload_n 0, 1) := by decide +kernel
theorem dX8_bring_1 : decode cX8_bring 1 = .ok (.invokevirtual 54, 3) := by decide +kernel
theorem dX8_bring_4 : decode cX8_bring 4 = .ok (.aload_n 0, 1) := by decide +kernel
theorem dX8_bring_5 : decode cX8_bring 5 = .ok (.aload_n 0, 1) := by decide +kernel
theorem dX8_bring_6 : decode cX8_bring 6 = .ok (.iload_n 1, 1) := by decide +kernel
theorem dX8_bring_7 : decode cX8_bring 7 = .ok (.iload_n 2, 1) := by decide +kernel
theorem dX8_bring_8 : decode cX8_bring 8 = .ok (.iload_n 3, 1) := by decide +kernel
theorem dX8_bring_9 : decode cX8_bring 9 = .ok (.invokevirtual 100, 3) := by decide +kernel
theorem dX8_bring_12 : decode cX8_bring 12 = .ok (.invokevirtual 61, 3) := by decide +kernel
theorem dX8_bring_15 : decode cX8_bring 15 = .ok (.ireturn, 1) := by decide +kernel
theorem dX8_smashes_0 : decode cX8_smashes 0 = .ok (.aload_n 0, 1) := by decide +kernel
theorem dX8_smashes_1 : decode cX8_smashes 1 = .ok (.iload_n 1, 1) := by decide +kernel
theorem dX8_smashes_2 : decode cX8_smashes 2 = .ok (.iload_n 2, 1) := by decide +kernel
theorem dX8_smashes_3 : decode cX8_smashes 3 = .ok (.iload_n 3, 1) := by decide +kernel
theorem dX8_smashes_4 : decode cX8_smashes 4 = .ok (.invokevirtual 78, 3) := by decide +kernel
theorem dX8_smashes_7 : decode cX8_smashes 7 = .ok (.ifCond .eq 14, 3) := by decide +kernel
theorem dX8_smashes_10 : decode cX8_smashes 10 = .ok (.iload 4, 2) := by decide +kernel
theorem dX8_smashes_12 : decode cX8_smashes 12 = .ok (.iconst 0, 1) := by decide +kernel
theorem dX8_smashes_13 : decode cX8_smashes 13 = .ok (.bipush 9, 2) := by decide +kernel
theorem dX8_smashes_15 : decode cX8_smashes 15 = .ok (.invokestatic 22, 3) := by decide +kernel
theorem dX8_smashes_18 : decode cX8_smashes 18 = .ok (.ifCond .ne 5, 3) := by decide +kernel
theorem dX8_smashes_21 : decode cX8_smashes 21 = .ok (.iconst (-1), 1) := by decide +kernel
theorem dX8_smashes_22 : decode cX8_smashes 22 = .ok (.ireturn, 1) := by decide +kernel
theorem dX8_smashes_23 : decode cX8_smashes 23 = .ok (.bipush 8, 2) := by decide +kernel
theorem dX8_smashes_25 : decode cX8_smashes 25 = .ok (.iload_n 1, 1) := by decide +kernel
theorem dX8_smashes_26 : decode cX8_smashes 26 = .ok (.imul, 1) := by decide +kernel
theorem dX8_smashes_27 : decode cX8_smashes 27 = .ok (.iload_n 2, 1) := by decide +kernel
theorem dX8_smashes_28 : decode cX8_smashes 28 = .ok (.iadd, 1) := by decide +kernel
theorem dX8_smashes_29 : decode cX8_smashes 29 = .ok (.istore 5, 2) := by decide +kernel
theorem dX8_smashes_31 : decode cX8_smashes 31 = .ok (.aload_n 0, 1) := by decide +kernel
theorem dX8_smashes_32 : decode cX8_smashes 32 = .ok (.getfield 7, 3) := by decide +kernel
theorem dX8_smashes_35 : decode cX8_smashes 35 = .ok (.iconst 0, 1) := by decide +kernel
theorem dX8_smashes_36 : decode cX8_smashes 36 = .ok (.iaload, 1) := by decide +kernel
theorem dX8_smashes_37 : decode cX8_smashes 37 = .ok (.ifCond .ne 17, 3) := by decide +kernel
theorem dX8_smashes_40 : decode cX8_smashes 40 = .ok (.aload_n 0, 1) := by decide +kernel
theorem dX8_smashes_41 : decode cX8_smashes 41 = .ok (.getfield 7, 3) := by decide +kernel
theorem dX8_smashes_44 : decode cX8_smashes 44 = .ok (.bipush 24, 2) := by decide +kernel
theorem dX8_smashes_46 : decode cX8_smashes 46 = .ok (.iload 5, 2) := by decide +kernel
theorem dX8_smashes_48 : decode cX8_smashes 48 = .ok (.iadd, 1) := by decide +kernel
theorem dX8_smashes_49 : decode cX8_smashes 49 = .ok (.iaload, 1) := by decide +kernel
theorem dX8_smashes_50 : decode cX8_smashes 50 = .ok (.iload_n 3, 1) := by decide +kernel
theorem dX8_smashes_51 : decode cX8_smashes 51 = .ok (.if_icmp .ge 6, 3) := by decide +kernel
theorem dX8_smashes_54 : decode cX8_smashes 54 = .ok (.bipush (-2), 2) := by decide +kernel
theorem dX8_smashes_56 : decode cX8_smashes 56 = .ok (.ireturn, 1) := by decide +kernel
theorem dX8_smashes_57 : decode cX8_smashes 57 = .ok (.aload_n 0, 1) := by decide +kernel
theorem dX8_smashes_58 : decode cX8_smashes 58 = .ok (.getfield 7, 3) := by decide +kernel
theorem dX8_smashes_61 : decode cX8_smashes 61 = .ok (.bipush 24, 2) := by decide +kernel
theorem dX8_smashes_63 : decode cX8_smashes 63 = .ok (.iload 5, 2) := by decide +kernel
theorem dX8_smashes_65 : decode cX8_smashes 65 = .ok (.iadd, 1) := by decide +kernel
theorem dX8_smashes_66 : decode cX8_smashes 66 = .ok (.dup2, 1) := by decide +kernel
theorem dX8_smashes_67 : decode cX8_smashes 67 = .ok (.iaload, 1) := by decide +kernel
theorem dX8_smashes_68 : decode cX8_smashes 68 = .ok (.iload_n 3, 1) := by decide +kernel
theorem dX8_smashes_69 : decode cX8_smashes 69 = .ok (.isub, 1) := by decide +kernel
theorem dX8_smashes_70 : decode cX8_smashes 70 = .ok (.iastore, 1) := by decide +kernel
theorem dX8_smashes_71 : decode cX8_smashes 71 = .ok (.iload 4, 2) := by decide +kernel
theorem dX8_smashes_73 : decode cX8_smashes 73 = .ok (.ifCond .le 11, 3) := by decide +kernel
theorem dX8_smashes_76 : decode cX8_smashes 76 = .ok (.aload_n 0, 1) := by decide +kernel
theorem dX8_smashes_77 : decode cX8_smashes 77 = .ok (.iload_n 2, 1) := by decide +kernel
theorem dX8_smashes_78 : decode cX8_smashes 78 = .ok (.iload_n 3, 1) := by decide +kernel
theorem dX8_smashes_79 : decode cX8_smashes 79 = .ok (.iconst 2, 1) := by decide +kernel
theorem dX8_smashes_80 : decode cX8_smashes 80 = .ok (.invokevirtual 94, 3) := by decide +kernel
theorem dX8_smashes_83 : decode cX8_smashes 83 = .ok (.ireturn, 1) := by decide +kernel
theorem dX8_smashes_84 : decode cX8_smashes 84 = .ok (.aload_n 0, 1) := by decide +kernel
theorem dX8_smashes_85 : decode cX8_smashes 85 = .ok (.getfield 7, 3) := by decide +kernel
theorem dX8_smashes_88 : decode cX8_smashes 88 = .ok (.bipush 64, 2) := by decide +kernel
theorem dX8_smashes_90 : decode cX8_smashes 90 = .ok (.iload 5, 2) := by decide +kernel
theorem dX8_smashes_92 : decode cX8_smashes 92 = .ok (.iadd, 1) := by decide +kernel
theorem dX8_smashes_93 : decode cX8_smashes 93 = .ok (.dup2, 1) := by decide +kernel
theorem dX8_smashes_94 : decode cX8_smashes 94 = .ok (.iaload, 1) := by decide +kernel
theorem dX8_smashes_95 : decode cX8_smashes 95 = .ok (.iload_n 3, 1) := by decide +kernel
theorem dX8_smashes_96 : decode cX8_smashes 96 = .ok (.iadd, 1) := by decide +kernel
theorem dX8_smashes_97 : decode cX8_smashes 97 = .ok (.iastore, 1) := by decide +kernel
theorem dX8_smashes_98 : decode cX8_smashes 98 = .ok (.iconst 0, 1) := by decide +kernel
theorem dX8_smashes_99 : decode cX8_smashes 99 = .ok (.ireturn, 1) := by decide +kernel
theorem dX8_smash_0 : decode cX8_smash 0 = .ok (.aload_n 0, 1) := by decide +kernel
theorem dX8_smash_1 : decode cX8_smash 1 = .ok (.invokevirtual 54, 3) := by decide +kernel
theorem dX8_smash_4 : decode cX8_smash 4 = .ok (.aload_n 0, 1) := by decide +kernel
theorem dX8_smash_5 : decode cX8_smash 5 = .ok (.aload_n 0, 1) := by decide +kernel
theorem dX8_smash_6 : decode cX8_smash 6 = .ok (.iload_n 1, 1) := by decide +kernel
theorem dX8_smash_7 : decode cX8_smash 7 = .ok (.iload_n 2, 1) := by decide +kernel
theorem dX8_smash_8 : decode cX8_smash 8 = .ok (.iload_n 3, 1) := by decide +kernel
theorem dX8_smash_9 : decode cX8_smash 9 = .ok (.iload 4, 2) := by decide +kernel
theorem dX8_smash_11 : decode cX8_smash 11 = .ok (.invokevirtual 103, 3) := by decide +kernel
theorem dX8_smash_14 : decode cX8_smash 14 = .ok (.invokevirtual 61, 3) := by decide +kernel
theorem dX8_smash_17 : decode cX8_smash 17 = .ok (.ireturn, 1) := by decide +kernel
theorem dX8_tears_0 : decode cX8_tears 0 = .ok (.aload_n 0, 1) := by decide +kernel
theorem dX8_tears_1 : decode cX8_tears 1 = .ok (.iload_n 1, 1) := by decide +kernel
theorem dX8_tears_2 : decode cX8_tears 2 = .ok (.invokevirtual 75, 3) := by decide +kernel
theorem dX8_tears_5 : decode cX8_tears 5 = .ok (.ifCond .ne 5, 3) := by decide +kernel
theorem dX8_tears_8 : decode cX8_tears 8 = .ok (.iconst (-1), 1) := by decide +kernel
theorem dX8_tears_9 : decode cX8_tears 9 = .ok (.ireturn, 1) := by decide +kernel
theorem dX8_tears_10 : decode cX8_tears 10 = .ok (.aload_n 0, 1) := by decide +kernel
theorem dX8_tears_11 : decode cX8_tears 11 = .ok (.getfield 7, 3) := by decide +kernel
theorem dX8_tears_14 : decode cX8_tears 14 = .ok (.bipush 14, 2) := by decide +kernel
theorem dX8_tears_16 : decode cX8_tears 16 = .ok (.iload_n 1, 1) := by decide +kernel
theorem dX8_tears_17 : decode cX8_tears 17 = .ok (.iadd, 1) := by decide +kernel
theorem dX8_tears_18 : decode cX8_tears 18 = .ok (.iaload, 1) := by decide +kernel
theorem dX8_tears_19 : decode cX8_tears 19 = .ok (.iconst 1, 1) := by decide +kernel
theorem dX8_tears_20 : decode cX8_tears 20 = .ok (.if_icmp .eq 6, 3) := by decide +kernel
theorem dX8_tears_23 : decode cX8_tears 23 = .ok (.bipush (-2), 2) := by decide +kernel
theorem dX8_tears_25 : decode cX8_tears 25 = .ok (.ireturn, 1) := by decide +kernel
theorem dX8_tears_26 : decode cX8_tears 26 = .ok (.aload_n 0, 1) := by decide +kernel
theorem dX8_tears_27 : decode cX8_tears 27 = .ok (.getfield 7, 3) := by decide +kernel
theorem dX8_tears_30 : decode cX8_tears 30 = .ok (.bipush 14, 2) := by decide +kernel
theorem dX8_tears_32 : decode cX8_tears 32 = .ok (.iload_n 1, 1) := by decide +kernel
theorem dX8_tears_33 : decode cX8_tears 33 = .ok (.iadd, 1) := by decide +kernel
theorem dX8_tears_34 : decode cX8_tears 34 = .ok (.iconst 2, 1) := by decide +kernel
theorem dX8_tears_35 : decode cX8_tears 35 = .ok (.iastore, 1) := by decide +kernel
theorem dX8_tears_36 : decode cX8_tears 36 = .ok (.aload_n 0, 1) := by decide +kernel
theorem dX8_tears_37 : decode cX8_tears 37 = .ok (.getfield 7, 3) := by decide +kernel
theorem dX8_tears_40 : decode cX8_tears 40 = .ok (.sipush 854, 3) := by decide +kernel
theorem dX8_tears_43 : decode cX8_tears 43 = .ok (.aload_n 0, 1) := by decide +kernel
theorem dX8_tears_44 : decode cX8_tears 44 = .ok (.getfield 7, 3) := by decide +kernel
theorem dX8_tears_47 : decode cX8_tears 47 = .ok (.bipush 19, 2) := by decide +kernel
theorem dX8_tears_49 : decode cX8_tears 49 = .ok (.iload_n 1, 1) := by decide +kernel
theorem dX8_tears_50 : decode cX8_tears 50 = .ok (.iadd, 1) := by decide +kernel
theorem dX8_tears_51 : decode cX8_tears 51 = .ok (.iaload, 1) := by decide +kernel
theorem dX8_tears_52 : decode cX8_tears 52 = .ok (.iadd, 1) := by decide +kernel
theorem dX8_tears_53 : decode cX8_tears 53 = .ok (.iconst 3, 1) := by decide +kernel
theorem dX8_tears_54 : decode cX8_tears 54 = .ok (.iastore, 1) := by decide +kernel
theorem dX8_tears_55 : decode cX8_tears 55 = .ok (.aload_n 0, 1) := by decide +kernel
theorem dX8_tears_56 : decode cX8_tears 56 = .ok (.getfield 7, 3) := by decide +kernel
theorem dX8_tears_59 : decode cX8_tears 59 = .ok (.bipush 19, 2) := by decide +kernel
theorem dX8_tears_61 : decode cX8_tears 61 = .ok (.iload_n 1, 1) := by decide +kernel
theorem dX8_tears_62 : decode cX8_tears 62 = .ok (.iadd, 1) := by decide +kernel
theorem dX8_tears_63 : decode cX8_tears 63 = .ok (.iaload, 1) := by decide +kernel
theorem dX8_tears_64 : decode cX8_tears 64 = .ok (.ireturn, 1) := by decide +kernel
theorem dX8_tear_0 : decode cX8_tear 0 = .ok (.aload_n 0, 1) := by decide +kernel
theorem dX8_tear_1 : decode cX8_tear 1 = .ok (.invokevirtual 54, 3) := by decide +kernel
theorem dX8_tear_4 : decode cX8_tear 4 = .ok (.aload_n 0, 1) := by decide +kernel
theorem dX8_tear_5 : decode cX8_tear 5 = .ok (.aload_n 0, 1) := by decide +kernel
theorem dX8_tear_6 : decode cX8_tear 6 = .ok (.iload_n 1, 1) := by decide +kernel
theorem dX8_tear_7 : decode cX8_tear 7 = .ok (.invokevirtual 107, 3) := by decide +kernel
theorem dX8_tear_10 : decode cX8_tear 10 = .ok (.invokevirtual 61, 3) := by decide +kernel
theorem dX8_tear_13 : decode cX8_tear 13 = .ok (.ireturn, 1) := by decide +kernel
theorem dX8_inspects_0 : decode cX8_inspects 0 = .ok (.aload_n 0, 1) := by decide +kernel
theorem dX8_inspects_1 : decode cX8_inspects 1 = .ok (.iload_n 1, 1) := by decide +kernel
theorem dX8_inspects_2 : decode cX8_inspects 2 = .ok (.invokevirtual 75, 3) := by decide +kernel
theorem dX8_inspects_5 : decode cX8_inspects 5 = .ok (.ifCond .ne 5, 3) := by decide +kernel
theorem dX8_inspects_8 : decode cX8_inspects 8 = .ok (.iconst (-1), 1) := by decide +kernel
theorem dX8_inspects_9 : decode cX8_inspects 9 = .ok (.ireturn, 1) := by decide +kernel
theorem dX8_inspects_10 : decode cX8_inspects 10 = .ok (.aload_n 0, 1) := by decide +kernel
theorem dX8_inspects_11 : decode cX8_inspects 11 = .ok (.getfield 7, 3) := by decide +kernel
theorem dX8_inspects_14 : decode cX8_inspects 14 = .ok (.iconst 0, 1) := by decide +kernel
theorem dX8_inspects_15 : decode cX8_inspects 15 = .ok (.iaload, 1) := by decide +kernel
theorem dX8_inspects_16 : decode cX8_inspects 16 = .ok (.iconst 2, 1) := by decide +kernel
theorem dX8_inspects_17 : decode cX8_inspects 17 = .ok (.if_icmp .eq 6, 3) := by decide +kernel
theorem dX8_inspects_20 : decode cX8_inspects 20 = .ok (.bipush (-2), 2) := by decide +kernel
theorem dX8_inspects_22 : decode cX8_inspects 22 = .ok (.ireturn, 1) := by decide +kernel
theorem dX8_inspects_23 : decode cX8_inspects 23 = .ok (.aload_n 0, 1) := by decide +kernel
theorem dX8_inspects_24 : decode cX8_inspects 24 = .ok (.getfield 7, 3) := by decide +kernel
theorem dX8_inspects_27 : decode cX8_inspects 27 = .ok (.bipush 14, 2) := by decide +kernel
theorem dX8_inspects_29 : decode cX8_inspects 29 = .ok (.iload_n 1, 1) := by decide +kernel
theorem dX8_inspects_30 : decode cX8_inspects 30 = .ok (.iadd, 1) := by decide +kernel
theorem dX8_inspects_31 : decode cX8_inspects 31 = .ok (.iaload, 1) := by decide +kernel
theorem dX8_inspects_32 : decode cX8_inspects 32 = .ok (.iconst 2, 1) := by decide +kernel
theorem dX8_inspects_33 : decode cX8_inspects 33 = .ok (.if_icmp .ne 13, 3) := by decide +kernel
theorem dX8_inspects_36 : decode cX8_inspects 36 = .ok (.aload_n 0, 1) := by decide +kernel
theorem dX8_inspects_37 : decode cX8_inspects 37 = .ok (.getfield 7, 3) := by decide +kernel
theorem dX8_inspects_40 : decode cX8_inspects 40 = .ok (.iconst 2, 1) := by decide +kernel
theorem dX8_inspects_41 : decode cX8_inspects 41 = .ok (.iaload, 1) := by decide +kernel
theorem dX8_inspects_42 : decode cX8_inspects 42 = .ok (.i2l, 1) := by decide +kernel
theorem dX8_inspects_43 : decode cX8_inspects 43 = .ok (.goto 4, 3) := by decide +kernel
theorem dX8_inspects_46 : decode cX8_inspects 46 = .ok (.lconst 0, 1) := by decide +kernel
theorem dX8_inspects_47 : decode cX8_inspects 47 = .ok (.lstore_n 2, 1) := by decide +kernel
theorem dX8_inspects_48 : decode cX8_inspects 48 = .ok (.iconst 0, 1) := by decide +kernel
theorem dX8_inspects_49 : decode cX8_inspects 49 = .ok (.istore 4, 2) := by decide +kernel
theorem dX8_inspects_51 : decode cX8_inspects 51 = .ok (.iload 4, 2) := by decide +kernel
theorem dX8_inspects_53 : decode cX8_inspects 53 = .ok (.aload_n 0, 1) := by decide +kernel
theorem dX8_inspects_54 : decode cX8_inspects 54 = .ok (.getfield 7, 3) := by decide +kernel
theorem dX8_inspects_57 : decode cX8_inspects 57 = .ok (.iconst 5, 1) := by decide +kernel
theorem dX8_inspects_58 : decode cX8_inspects 58 = .ok (.iaload, 1) := by decide +kernel
theorem dX8_inspects_59 : decode cX8_inspects 59 = .ok (.if_icmp .ge 33, 3) := by decide +kernel
theorem dX8_inspects_62 : decode cX8_inspects 62 = .ok (.lload_n 2, 1) := by decide +kernel
theorem dX8_inspects_63 : decode cX8_inspects 63 = .ok (.aload_n 0, 1) := by decide +kernel
theorem dX8_inspects_64 : decode cX8_inspects 64 = .ok (.iload 4, 2) := by decide +kernel
theorem dX8_inspects_66 : decode cX8_inspects 66 = .ok (.aload_n 0, 1) := by decide +kernel
theorem dX8_inspects_67 : decode cX8_inspects 67 = .ok (.getfield 7, 3) := by decide +kernel
theorem dX8_inspects_70 : decode cX8_inspects 70 = .ok (.bipush 64, 2) := by decide +kernel
theorem dX8_inspects_72 : decode cX8_inspects 72 = .ok (.bipush 8, 2) := by decide +kernel
theorem dX8_inspects_74 : decode cX8_inspects 74 = .ok (.iload_n 1, 1) := by decide +kernel
theorem dX8_inspects_75 : decode cX8_inspects 75 = .ok (.imul, 1) := by decide +kernel
theorem dX8_inspects_76 : decode cX8_inspects 76 = .ok (.iadd, 1) := by decide +kernel
theorem dX8_inspects_77 : decode cX8_inspects 77 = .ok (.iload 4, 2) := by decide +kernel
theorem dX8_inspects_79 : decode cX8_inspects 79 = .ok (.iadd, 1) := by decide +kernel
theorem dX8_inspects_80 : decode cX8_inspects 80 = .ok (.iaload, 1) := by decide +kernel
theorem dX8_inspects_81 : decode cX8_inspects 81 = .ok (.invokevirtual 110, 3) := by decide +kernel
theorem dX8_inspects_84 : decode cX8_inspects 84 = .ok (.ladd, 1) := by decide +kernel
theorem dX8_inspects_85 : decode cX8_inspects 85 = .ok (.lstore_n 2, 1) := by decide +kernel
theorem dX8_inspects_86 : decode cX8_inspects 86 = .ok (.iinc 4 1, 3) := by decide +kernel
theorem dX8_inspects_89 : decode cX8_inspects 89 = .ok (.goto (-38), 3) := by decide +kernel
theorem dX8_inspects_92 : decode cX8_inspects 92 = .ok (.aload_n 0, 1) := by decide +kernel
theorem dX8_inspects_93 : decode cX8_inspects 93 = .ok (.iconst 1, 1) := by decide +kernel
theorem dX8_inspects_94 : decode cX8_inspects 94 = .ok (.invokevirtual 46, 3) := by decide +kernel
theorem dX8_inspects_97 : decode cX8_inspects 97 = .ok (.ifCond .eq 11, 3) := by decide +kernel
theorem dX8_inspects_100 : decode cX8_inspects 100 = .ok (.lload_n 2, 1) := by decide +kernel
theorem dX8_inspects_101 : decode cX8_inspects 101 = .ok (.ldc2_w 82, 3) := by decide +kernel
theorem dX8_inspects_104 : decode cX8_inspects 104 = .ok (.lcmp, 1) := by decide +kernel
theorem dX8_inspects_105 : decode cX8_inspects 105 = .ok (.ifCond .le 6, 3) := by decide +kernel
theorem dX8_inspects_108 : decode cX8_inspects 108 = .ok (.bipush (-3), 2) := by decide +kernel
theorem dX8_inspects_110 : decode cX8_inspects 110 = .ok (.ireturn, 1) := by decide +kernel
theorem dX8_inspects_111 : decode cX8_inspects 111 = .ok (.aload_n 0, 1) := by decide +kernel
theorem dX8_inspects_112 : decode cX8_inspects 112 = .ok (.getfield 7, 3) := by decide +kernel
theorem dX8_inspects_115 : decode cX8_inspects 115 = .ok (.bipush 8, 2) := by decide +kernel
theorem dX8_inspects_117 : decode cX8_inspects 117 = .ok (.dup2, 1) := by decide +kernel
theorem dX8_inspects_118 : decode cX8_inspects 118 = .ok (.iaload, 1) := by decide +kernel
theorem dX8_inspects_119 : decode cX8_inspects 119 = .ok (.aload_n 0, 1) := by decide +kernel
theorem dX8_inspects_120 : decode cX8_inspects 120 = .ok (.getfield 7, 3) := by decide +kernel
theorem dX8_inspects_123 : decode cX8_inspects 123 = .ok (.bipush 14, 2) := by decide +kernel
theorem dX8_inspects_125 : decode cX8_inspects 125 = .ok (.iload_n 1, 1) := by decide +kernel
theorem dX8_inspects_126 : decode cX8_inspects 126 = .ok (.iadd, 1) := by decide +kernel
theorem dX8_inspects_127 : decode cX8_inspects 127 = .ok (.iaload, 1) := by decide +kernel
theorem dX8_inspects_128 : decode cX8_inspects 128 = .ok (.iconst 2, 1) := by decide +kernel
theorem dX8_inspects_129 : decode cX8_inspects 129 = .ok (.if_icmp .ne 12, 3) := by decide +kernel
theorem dX8_inspects_132 : decode cX8_inspects 132 = .ok (.aload_n 0, 1) := by decide +kernel
theorem dX8_inspects_133 : decode cX8_inspects 133 = .ok (.getfield 7, 3) := by decide +kernel
theorem dX8_inspects_136 : decode cX8_inspects 136 = .ok (.iconst 2, 1) := by decide +kernel
theorem dX8_inspects_137 : decode cX8_inspects 137 = .ok (.iaload, 1) := by decide +kernel
theorem dX8_inspects_138 : decode cX8_inspects 138 = .ok (.goto 4, 3) := by decide +kernel
theorem dX8_inspects_141 : decode cX8_inspects 141 = .ok (.iconst 0, 1) := by decide +kernel
theorem dX8_inspects_142 : decode cX8_inspects 142 = .ok (.iadd, 1) := by decide +kernel
theorem dX8_inspects_143 : decode cX8_inspects 143 = .ok (.iastore, 1) := by decide +kernel
theorem dX8_inspects_144 : decode cX8_inspects 144 = .ok (.aload_n 0, 1) := by decide +kernel
theorem dX8_inspects_145 : decode cX8_inspects 145 = .ok (.iload_n 1, 1) := by decide +kernel
theorem dX8_inspects_146 : decode cX8_inspects 146 = .ok (.iconst 2, 1) := by decide +kernel
theorem dX8_inspects_147 : decode cX8_inspects 147 = .ok (.invokevirtual 84, 3) := by decide +kernel
theorem dX8_inspects_150 : decode cX8_inspects 150 = .ok (.iconst 0, 1) := by decide +kernel
theorem dX8_inspects_151 : decode cX8_inspects 151 = .ok (.istore 4, 2) := by decide +kernel
theorem dX8_inspects_153 : decode cX8_inspects 153 = .ok (.iload 4, 2) := by decide +kernel
theorem dX8_inspects_155 : decode cX8_inspects 155 = .ok (.aload_n 0, 1) := by decide +kernel
theorem dX8_inspects_156 : decode cX8_inspects 156 = .ok (.getfield 7, 3) := by decide +kernel
theorem dX8_inspects_159 : decode cX8_inspects 159 = .ok (.iconst 5, 1) := by decide +kernel
theorem dX8_inspects_160 : decode cX8_inspects 160 = .ok (.iaload, 1) := by decide +kernel
theorem dX8_inspects_161 : decode cX8_inspects 161 = .ok (.if_icmp .ge 48, 3) := by decide +kernel
theorem dX8_inspects_164 : decode cX8_inspects 164 = .ok (.aload_n 0, 1) := by decide +kernel
theorem dX8_inspects_165 : decode cX8_inspects 165 = .ok (.iload 4, 2) := by decide +kernel
theorem dX8_inspects_167 : decode cX8_inspects 167 = .ok (.aload_n 0, 1) := by decide +kernel
theorem dX8_inspects_168 : decode cX8_inspects 168 = .ok (.getfield 7, 3) := by decide +kernel
theorem dX8_inspects_171 : decode cX8_inspects 171 = .ok (.bipush 64, 2) := by decide +kernel
theorem dX8_inspects_173 : decode cX8_inspects 173 = .ok (.bipush 8, 2) := by decide +kernel
theorem dX8_inspects_175 : decode cX8_inspects 175 = .ok (.iload_n 1, 1) := by decide +kernel
theorem dX8_inspects_176 : decode cX8_inspects 176 = .ok (.imul, 1) := by decide +kernel
theorem dX8_inspects_177 : decode cX8_inspects 177 = .ok (.iadd, 1) := by decide +kernel
theorem dX8_inspects_178 : decode cX8_inspects 178 = .ok (.iload 4, 2) := by decide +kernel
theorem dX8_inspects_180 : decode cX8_inspects 180 = .ok (.iadd, 1) := by decide +kernel
theorem dX8_inspects_181 : decode cX8_inspects 181 = .ok (.iaload, 1) := by decide +kernel
theorem dX8_inspects_182 : decode cX8_inspects 182 = .ok (.iconst 3, 1) := by decide +kernel
theorem dX8_inspects_183 : decode cX8_inspects 183 = .ok (.invokevirtual 94, 3) := by decide +kernel
theorem dX8_inspects_186 : decode cX8_inspects 186 = .ok (.pop, 1) := by decide +kernel
theorem dX8_inspects_187 : decode cX8_inspects 187 = .ok (.aload_n 0, 1) := by decide +kernel
theorem dX8_inspects_188 : decode cX8_inspects 188 = .ok (.getfield 7, 3) := by decide +kernel
theorem dX8_inspects_191 : decode cX8_inspects 191 = .ok (.bipush 64, 2) := by decide +kernel
theorem dX8_inspects_193 : decode cX8_inspects 193 = .ok (.bipush 8, 2) := by decide +kernel
theorem dX8_inspects_195 : decode cX8_inspects 195 = .ok (.iload_n 1, 1) := by decide +kernel
theorem dX8_inspects_196 : decode cX8_inspects 196 = .ok (.imul, 1) := by decide +kernel
theorem dX8_inspects_197 : decode cX8_inspects 197 = .ok (.iadd, 1) := by decide +kernel
theorem dX8_inspects_198 : decode cX8_inspects 198 = .ok (.iload 4, 2) := by decide +kernel
theorem dX8_inspects_200 : decode cX8_inspects 200 = .ok (.iadd, 1) := by decide +kernel
theorem dX8_inspects_201 : decode cX8_inspects 201 = .ok (.iconst 0, 1) := by decide +kernel
theorem dX8_inspects_202 : decode cX8_inspects 202 = .ok (.iastore, 1) := by decide +kernel
theorem dX8_inspects_203 : decode cX8_inspects 203 = .ok (.iinc 4 1, 3) := by decide +kernel
theorem dX8_inspects_206 : decode cX8_inspects 206 = .ok (.goto (-53), 3) := by decide +kernel
theorem dX8_inspects_209 : decode cX8_inspects 209 = .ok (.aload_n 0, 1) := by decide +kernel
theorem dX8_inspects_210 : decode cX8_inspects 210 = .ok (.iload_n 1, 1) := by decide +kernel
theorem dX8_inspects_211 : decode cX8_inspects 211 = .ok (.invokevirtual 50, 3) := by decide +kernel
theorem dX8_inspects_214 : decode cX8_inspects 214 = .ok (.lload_n 2, 1) := by decide +kernel
theorem dX8_inspects_215 : decode cX8_inspects 215 = .ok (.l2i, 1) := by decide +kernel
theorem dX8_inspects_216 : decode cX8_inspects 216 = .ok (.ireturn, 1) := by decide +kernel
theorem dX8_inspect_0 : decode cX8_inspect 0 = .ok (.aload_n 0, 1) := by decide +kernel
theorem dX8_inspect_1 : decode cX8_inspect 1 = .ok (.invokevirtual 54, 3) := by decide +kernel
theorem dX8_inspect_4 : decode cX8_inspect 4 = .ok (.aload_n 0, 1) := by decide +kernel
theorem dX8_inspect_5 : decode cX8_inspect 5 = .ok (.aload_n 0, 1) := by decide +kernel
theorem dX8_inspect_6 : decode cX8_inspect 6 = .ok (.iload_n 1, 1) := by decide +kernel
theorem dX8_inspect_7 : decode cX8_inspect 7 = .ok (.invokevirtual 114, 3) := by decide +kernel
theorem dX8_inspect_10 : decode cX8_inspect 10 = .ok (.invokevirtual 61, 3) := by decide +kernel
theorem dX8_inspect_13 : decode cX8_inspect 13 = .ok (.ireturn, 1) := by decide +kernel
theorem dX8_lockersThat_0 : decode cX8_lockersThat 0 = .ok (.iconst 0, 1) := by decide +kernel
theorem dX8_lockersThat_1 : decode cX8_lockersThat 1 = .ok (.istore_n 2, 1) := by decide +kernel
theorem dX8_lockersThat_2 : decode cX8_lockersThat 2 = .ok (.iconst 0, 1) := by decide +kernel
theorem dX8_lockersThat_3 : decode cX8_lockersThat 3 = .ok (.istore_n 3, 1) := by decide +kernel
theorem dX8_lockersThat_4 : decode cX8_lockersThat 4 = .ok (.iload_n 3, 1) := by decide +kernel
theorem dX8_lockersThat_5 : decode cX8_lockersThat 5 = .ok (.aload_n 0, 1) := by decide +kernel
theorem dX8_lockersThat_6 : decode cX8_lockersThat 6 = .ok (.getfield 7, 3) := by decide +kernel
theorem dX8_lockersThat_9 : decode cX8_lockersThat 9 = .ok (.iconst 4, 1) := by decide +kernel
theorem dX8_lockersThat_10 : decode cX8_lockersThat 10 = .ok (.iaload, 1) := by decide +kernel
theorem dX8_lockersThat_11 : decode cX8_lockersThat 11 = .ok (.if_icmp .ge 30, 3) := by decide +kernel
theorem dX8_lockersThat_14 : decode cX8_lockersThat 14 = .ok (.iload_n 2, 1) := by decide +kernel
theorem dX8_lockersThat_15 : decode cX8_lockersThat 15 = .ok (.aload_n 0, 1) := by decide +kernel
theorem dX8_lockersThat_16 : decode cX8_lockersThat 16 = .ok (.getfield 7, 3) := by decide +kernel
theorem dX8_lockersThat_19 : decode cX8_lockersThat 19 = .ok (.bipush 14, 2) := by decide +kernel
theorem dX8_lockersThat_21 : decode cX8_lockersThat 21 = .ok (.iload_n 3, 1) := by decide +kernel
theorem dX8_lockersThat_22 : decode cX8_lockersThat 22 = .ok (.iadd, 1) := by decide +kernel
theorem dX8_lockersThat_23 : decode cX8_lockersThat 23 = .ok (.iaload, 1) := by decide +kernel
theorem dX8_lockersThat_24 : decode cX8_lockersThat 24 = .ok (.iload_n 1, 1) := by decide +kernel
theorem dX8_lockersThat_25 : decode cX8_lockersThat 25 = .ok (.if_icmp .ne 7, 3) := by decide +kernel
theorem dX8_lockersThat_28 : decode cX8_lockersThat 28 = .ok (.iconst 1, 1) := by decide +kernel
theorem dX8_lockersThat_29 : decode cX8_lockersThat 29 = .ok (.goto 4, 3) := by decide +kernel
theorem dX8_lockersThat_32 : decode cX8_lockersThat 32 = .ok (.iconst 0, 1) := by decide +kernel
theorem dX8_lockersThat_33 : decode cX8_lockersThat 33 = .ok (.iadd, 1) := by decide +kernel
theorem dX8_lockersThat_34 : decode cX8_lockersThat 34 = .ok (.istore_n 2, 1) := by decide +kernel
theorem dX8_lockersThat_35 : decode cX8_lockersThat 35 = .ok (.iinc 3 1, 3) := by decide +kernel
theorem dX8_lockersThat_38 : decode cX8_lockersThat 38 = .ok (.goto (-34), 3) := by decide +kernel
theorem dX8_lockersThat_41 : decode cX8_lockersThat 41 = .ok (.iload_n 2, 1) := by decide +kernel
theorem dX8_lockersThat_42 : decode cX8_lockersThat 42 = .ok (.ireturn, 1) := by decide +kernel
theorem dX8_crosses_0 : decode cX8_crosses 0 = .ok (.iload_n 1, 1) := by decide +kernel
theorem dX8_crosses_1 : decode cX8_crosses 1 = .ok (.iconst 0, 1) := by decide +kernel
theorem dX8_crosses_2 : decode cX8_crosses 2 = .ok (.iconst 2, 1) := by decide +kernel
theorem dX8_crosses_3 : decode cX8_crosses 3 = .ok (.invokestatic 22, 3) := by decide +kernel
theorem dX8_crosses_6 : decode cX8_crosses 6 = .ok (.ifCond .ne 5, 3) := by decide +kernel
theorem dX8_crosses_9 : decode cX8_crosses 9 = .ok (.iconst (-1), 1) := by decide +kernel
theorem dX8_crosses_10 : decode cX8_crosses 10 = .ok (.ireturn, 1) := by decide +kernel
theorem dX8_crosses_11 : decode cX8_crosses 11 = .ok (.aload_n 0, 1) := by decide +kernel
theorem dX8_crosses_12 : decode cX8_crosses 12 = .ok (.getfield 7, 3) := by decide +kernel
theorem dX8_crosses_15 : decode cX8_crosses 15 = .ok (.iconst 0, 1) := by decide +kernel
theorem dX8_crosses_16 : decode cX8_crosses 16 = .ok (.iaload, 1) := by decide +kernel
theorem dX8_crosses_17 : decode cX8_crosses 17 = .ok (.istore_n 2, 1) := by decide +kernel
theorem dX8_crosses_18 : decode cX8_crosses 18 = .ok (.iload_n 2, 1) := by decide +kernel
theorem dX8_crosses_19 : decode cX8_crosses 19 = .ok (.iload_n 1, 1) := by decide +kernel
theorem dX8_crosses_20 : decode cX8_crosses 20 = .ok (.if_icmp .eq 10, 3) := by decide +kernel
theorem dX8_crosses_23 : decode cX8_crosses 23 = .ok (.iload_n 2, 1) := by decide +kernel
theorem dX8_crosses_24 : decode cX8_crosses 24 = .ok (.iload_n 1, 1) := by decide +kernel
theorem dX8_crosses_25 : decode cX8_crosses 25 = .ok (.iadd, 1) := by decide +kernel
theorem dX8_crosses_26 : decode cX8_crosses 26 = .ok (.iconst 2, 1) := by decide +kernel
theorem dX8_crosses_27 : decode cX8_crosses 27 = .ok (.if_icmp .ne 6, 3) := by decide +kernel
theorem dX8_crosses_30 : decode cX8_crosses 30 = .ok (.bipush (-2), 2) := by decide +kernel
theorem dX8_crosses_32 : decode cX8_crosses 32 = .ok (.ireturn, 1) := by decide +kernel
theorem dX8_crosses_33 : decode cX8_crosses 33 = .ok (.iload_n 2, 1) := by decide +kernel
theorem dX8_crosses_34 : decode cX8_crosses 34 = .ok (.ifCond .ne 11, 3) := by decide +kernel
theorem dX8_crosses_37 : decode cX8_crosses 37 = .ok (.aload_n 0, 1) := by decide +kernel
theorem dX8_crosses_38 : decode cX8_crosses 38 = .ok (.iconst 0, 1) := by decide +kernel
theorem dX8_crosses_39 : decode cX8_crosses 39 = .ok (.invokevirtual 117, 3) := by decide +kernel
theorem dX8_crosses_42 : decode cX8_crosses 42 = .ok (.goto 16, 3) := by decide +kernel
theorem dX8_crosses_45 : decode cX8_crosses 45 = .ok (.iload_n 1, 1) := by decide +kernel
theorem dX8_crosses_46 : decode cX8_crosses 46 = .ok (.ifCond .ne 11, 3) := by decide +kernel
theorem dX8_crosses_49 : decode cX8_crosses 49 = .ok (.aload_n 0, 1) := by decide +kernel
theorem dX8_crosses_50 : decode cX8_crosses 50 = .ok (.iconst 1, 1) := by decide +kernel
theorem dX8_crosses_51 : decode cX8_crosses 51 = .ok (.invokevirtual 117, 3) := by decide +kernel
theorem dX8_crosses_54 : decode cX8_crosses 54 = .ok (.goto 4, 3) := by decide +kernel
theorem dX8_crosses_57 : decode cX8_crosses 57 = .ok (.iconst 0, 1) := by decide +kernel
theorem dX8_crosses_58 : decode cX8_crosses 58 = .ok (.istore_n 3, 1) := by decide +kernel
theorem dX8_crosses_59 : decode cX8_crosses 59 = .ok (.iload_n 2, 1) := by decide +kernel
theorem dX8_crosses_60 : decode cX8_crosses 60 = .ok (.ifCond .ne 14, 3) := by decide +kernel
theorem dX8_crosses_63 : decode cX8_crosses 63 = .ok (.aload_n 0, 1) := by decide +kernel
theorem dX8_crosses_64 : decode cX8_crosses 64 = .ok (.iload_n 3, 1) := by decide +kernel
theorem dX8_crosses_65 : decode cX8_crosses 65 = .ok (.invokevirtual 46, 3) := by decide +kernel
theorem dX8_crosses_68 : decode cX8_crosses 68 = .ok (.ifCond .ne 6, 3) := by decide +kernel
theorem dX8_crosses_71 : decode cX8_crosses 71 = .ok (.bipush (-3), 2) := by decide +kernel
theorem dX8_crosses_73 : decode cX8_crosses 73 = .ok (.ireturn, 1) := by decide +kernel
theorem dX8_crosses_74 : decode cX8_crosses 74 = .ok (.aload_n 0, 1) := by decide +kernel
theorem dX8_crosses_75 : decode cX8_crosses 75 = .ok (.getfield 7, 3) := by decide +kernel
theorem dX8_crosses_78 : decode cX8_crosses 78 = .ok (.iconst 0, 1) := by decide +kernel
theorem dX8_crosses_79 : decode cX8_crosses 79 = .ok (.iload_n 1, 1) := by decide +kernel
theorem dX8_crosses_80 : decode cX8_crosses 80 = .ok (.iastore, 1) := by decide +kernel
theorem dX8_crosses_81 : decode cX8_crosses 81 = .ok (.iconst 0, 1) := by decide +kernel
theorem dX8_crosses_82 : decode cX8_crosses 82 = .ok (.istore 4, 2) := by decide +kernel
theorem dX8_crosses_84 : decode cX8_crosses 84 = .ok (.iload 4, 2) := by decide +kernel
theorem dX8_crosses_86 : decode cX8_crosses 86 = .ok (.aload_n 0, 1) := by decide +kernel
theorem dX8_crosses_87 : decode cX8_crosses 87 = .ok (.getfield 7, 3) := by decide +kernel
theorem dX8_crosses_90 : decode cX8_crosses 90 = .ok (.iconst 4, 1) := by decide +kernel
theorem dX8_crosses_91 : decode cX8_crosses 91 = .ok (.iaload, 1) := by decide +kernel
theorem dX8_crosses_92 : decode cX8_crosses 92 = .ok (.if_icmp .ge 44, 3) := by decide +kernel
theorem dX8_crosses_95 : decode cX8_crosses 95 = .ok (.iload_n 1, 1) := by decide +kernel
theorem dX8_crosses_96 : decode cX8_crosses 96 = .ok (.ifCond .ne 24, 3) := by decide +kernel
theorem dX8_crosses_99 : decode cX8_crosses 99 = .ok (.aload_n 0, 1) := by decide +kernel
theorem dX8_crosses_100 : decode cX8_crosses 100 = .ok (.iload 4, 2) := by decide +kernel
theorem dX8_crosses_102 : decode cX8_crosses 102 = .ok (.iconst 1, 1) := by decide +kernel
theorem dX8_crosses_103 : decode cX8_crosses 103 = .ok (.invokevirtual 84, 3) := by decide +kernel
theorem dX8_crosses_106 : decode cX8_crosses 106 = .ok (.aload_n 0, 1) := by decide +kernel
theorem dX8_crosses_107 : decode cX8_crosses 107 = .ok (.getfield 7, 3) := by decide +kernel
theorem dX8_crosses_110 : decode cX8_crosses 110 = .ok (.bipush 14, 2) := by decide +kernel
theorem dX8_crosses_112 : decode cX8_crosses 112 = .ok (.iload 4, 2) := by decide +kernel
theorem dX8_crosses_114 : decode cX8_crosses 114 = .ok (.iadd, 1) := by decide +kernel
theorem dX8_crosses_115 : decode cX8_crosses 115 = .ok (.iconst 0, 1) := by decide +kernel
theorem dX8_crosses_116 : decode cX8_crosses 116 = .ok (.iastore, 1) := by decide +kernel
theorem dX8_crosses_117 : decode cX8_crosses 117 = .ok (.goto 13, 3) := by decide +kernel
theorem dX8_crosses_120 : decode cX8_crosses 120 = .ok (.iload_n 2, 1) := by decide +kernel
theorem dX8_crosses_121 : decode cX8_crosses 121 = .ok (.ifCond .ne 9, 3) := by decide +kernel
theorem dX8_crosses_124 : decode cX8_crosses 124 = .ok (.aload_n 0, 1) := by decide +kernel
theorem dX8_crosses_125 : decode cX8_crosses 125 = .ok (.iload 4, 2) := by decide +kernel
theorem dX8_crosses_127 : decode cX8_crosses 127 = .ok (.invokevirtual 50, 3) := by decide +kernel
theorem dX8_crosses_130 : decode cX8_crosses 130 = .ok (.iinc 4 1, 3) := by decide +kernel
theorem dX8_crosses_133 : decode cX8_crosses 133 = .ok (.goto (-49), 3) := by decide +kernel
theorem dX8_crosses_136 : decode cX8_crosses 136 = .ok (.iload_n 3, 1) := by decide +kernel
theorem dX8_crosses_137 : decode cX8_crosses 137 = .ok (.ireturn, 1) := by decide +kernel
theorem dX8_cross_0 : decode cX8_cross 0 = .ok (.aload_n 0, 1) := by decide +kernel
theorem dX8_cross_1 : decode cX8_cross 1 = .ok (.invokevirtual 54, 3) := by decide +kernel
theorem dX8_cross_4 : decode cX8_cross 4 = .ok (.aload_n 0, 1) := by decide +kernel
theorem dX8_cross_5 : decode cX8_cross 5 = .ok (.aload_n 0, 1) := by decide +kernel
theorem dX8_cross_6 : decode cX8_cross 6 = .ok (.iload_n 1, 1) := by decide +kernel
theorem dX8_cross_7 : decode cX8_cross 7 = .ok (.invokevirtual 120, 3) := by decide +kernel
theorem dX8_cross_10 : decode cX8_cross 10 = .ok (.invokevirtual 61, 3) := by decide +kernel
theorem dX8_cross_13 : decode cX8_cross 13 = .ok (.ireturn, 1) := by decide +kernel
theorem dX8_loses_0 : decode cX8_loses 0 = .ok (.iload_n 2, 1) := by decide +kernel
theorem dX8_loses_1 : decode cX8_loses 1 = .ok (.istore_n 3, 1) := by decide +kernel
theorem dX8_loses_2 : decode cX8_loses 2 = .ok (.iconst 0, 1) := by decide +kernel
theorem dX8_loses_3 : decode cX8_loses 3 = .ok (.istore 4, 2) := by decide +kernel
theorem dX8_loses_5 : decode cX8_loses 5 = .ok (.iload 4, 2) := by decide +kernel
theorem dX8_loses_7 : decode cX8_loses 7 = .ok (.bipush 10, 2) := by decide +kernel
theorem dX8_loses_9 : decode cX8_loses 9 = .ok (.if_icmp .ge 64, 3) := by decide +kernel
theorem dX8_loses_12 : decode cX8_loses 12 = .ok (.iload 4, 2) := by decide +kernel
theorem dX8_loses_14 : decode cX8_loses 14 = .ok (.iconst 5, 1) := by decide +kernel
theorem dX8_loses_15 : decode cX8_loses 15 = .ok (.if_icmp .ge 8, 3) := by decide +kernel
theorem dX8_loses_18 : decode cX8_loses 18 = .ok (.bipush 64, 2) := by decide +kernel
theorem dX8_loses_20 : decode cX8_loses 20 = .ok (.goto 5, 3) := by decide +kernel
theorem dX8_loses_23 : decode cX8_loses 23 = .ok (.bipush 24, 2) := by decide +kernel
theorem dX8_loses_25 : decode cX8_loses 25 = .ok (.bipush 8, 2) := by decide +kernel
theorem dX8_loses_27 : decode cX8_loses 27 = .ok (.iload 4, 2) := by decide +kernel
theorem dX8_loses_29 : decode cX8_loses 29 = .ok (.iconst 5, 1) := by decide +kernel
theorem dX8_loses_30 : decode cX8_loses 30 = .ok (.irem, 1) := by decide +kernel
theorem dX8_loses_31 : decode cX8_loses 31 = .ok (.imul, 1) := by decide +kernel
theorem dX8_loses_32 : decode cX8_loses 32 = .ok (.iadd, 1) := by decide +kernel
theorem dX8_loses_33 : decode cX8_loses 33 = .ok (.iload_n 1, 1) := by decide +kernel
theorem dX8_loses_34 : decode cX8_loses 34 = .ok (.iadd, 1) := by decide +kernel
theorem dX8_loses_35 : decode cX8_loses 35 = .ok (.istore 5, 2) := by decide +kernel
theorem dX8_loses_37 : decode cX8_loses 37 = .ok (.iload_n 3, 1) := by decide +kernel
theorem dX8_loses_38 : decode cX8_loses 38 = .ok (.aload_n 0, 1) := by decide +kernel
theorem dX8_loses_39 : decode cX8_loses 39 = .ok (.getfield 7, 3) := by decide +kernel
theorem dX8_loses_42 : decode cX8_loses 42 = .ok (.iload 5, 2) := by decide +kernel
theorem dX8_loses_44 : decode cX8_loses 44 = .ok (.iaload, 1) := by decide +kernel
theorem dX8_loses_45 : decode cX8_loses 45 = .ok (.invokestatic 37, 3) := by decide +kernel
theorem dX8_loses_48 : decode cX8_loses 48 = .ok (.istore 6, 2) := by decide +kernel
theorem dX8_loses_50 : decode cX8_loses 50 = .ok (.aload_n 0, 1) := by decide +kernel
theorem dX8_loses_51 : decode cX8_loses 51 = .ok (.getfield 7, 3) := by decide +kernel
theorem dX8_loses_54 : decode cX8_loses 54 = .ok (.iload 5, 2) := by decide +kernel
theorem dX8_loses_56 : decode cX8_loses 56 = .ok (.dup2, 1) := by decide +kernel
theorem dX8_loses_57 : decode cX8_loses 57 = .ok (.iaload, 1) := by decide +kernel
theorem dX8_loses_58 : decode cX8_loses 58 = .ok (.iload 6, 2) := by decide +kernel
theorem dX8_loses_60 : decode cX8_loses 60 = .ok (.isub, 1) := by decide +kernel
theorem dX8_loses_61 : decode cX8_loses 61 = .ok (.iastore, 1) := by decide +kernel
theorem dX8_loses_62 : decode cX8_loses 62 = .ok (.iload_n 3, 1) := by decide +kernel
theorem dX8_loses_63 : decode cX8_loses 63 = .ok (.iload 6, 2) := by decide +kernel
theorem dX8_loses_65 : decode cX8_loses 65 = .ok (.isub, 1) := by decide +kernel
theorem dX8_loses_66 : decode cX8_loses 66 = .ok (.istore_n 3, 1) := by decide +kernel
theorem dX8_loses_67 : decode cX8_loses 67 = .ok (.iinc 4 1, 3) := by decide +kernel
theorem dX8_loses_70 : decode cX8_loses 70 = .ok (.goto (-65), 3) := by decide +kernel
theorem dX8_loses_73 : decode cX8_loses 73 = .ok (.return_, 1) := by decide +kernel
theorem dX8_passes_0 : decode cX8_passes 0 = .ok (.iload_n 1, 1) := by decide +kernel
theorem dX8_passes_1 : decode cX8_passes 1 = .ok (.iconst 1, 1) := by decide +kernel
theorem dX8_passes_2 : decode cX8_passes 2 = .ok (.bipush 60, 2) := by decide +kernel
theorem dX8_passes_4 : decode cX8_passes 4 = .ok (.invokestatic 22, 3) := by decide +kernel
theorem dX8_passes_7 : decode cX8_passes 7 = .ok (.ifCond .ne 5, 3) := by decide +kernel
theorem dX8_passes_10 : decode cX8_passes 10 = .ok (.iconst (-1), 1) := by decide +kernel
theorem dX8_passes_11 : decode cX8_passes 11 = .ok (.ireturn, 1) := by decide +kernel
theorem dX8_passes_12 : decode cX8_passes 12 = .ok (.aload_n 0, 1) := by decide +kernel
theorem dX8_passes_13 : decode cX8_passes 13 = .ok (.getfield 7, 3) := by decide +kernel
theorem dX8_passes_16 : decode cX8_passes 16 = .ok (.iconst 1, 1) := by decide +kernel
theorem dX8_passes_17 : decode cX8_passes 17 = .ok (.iaload, 1) := by decide +kernel
theorem dX8_passes_18 : decode cX8_passes 18 = .ok (.iload_n 1, 1) := by decide +kernel
theorem dX8_passes_19 : decode cX8_passes 19 = .ok (.iadd, 1) := by decide +kernel
theorem dX8_passes_20 : decode cX8_passes 20 = .ok (.sipush 5000, 3) := by decide +kernel
theorem dX8_passes_23 : decode cX8_passes 23 = .ok (.if_icmp .le 6, 3) := by decide +kernel
theorem dX8_passes_26 : decode cX8_passes 26 = .ok (.bipush (-3), 2) := by decide +kernel
theorem dX8_passes_28 : decode cX8_passes 28 = .ok (.ireturn, 1) := by decide +kernel
theorem dX8_passes_29 : decode cX8_passes 29 = .ok (.iconst 0, 1) := by decide +kernel
theorem dX8_passes_30 : decode cX8_passes 30 = .ok (.istore_n 2, 1) := by decide +kernel
theorem dX8_passes_31 : decode cX8_passes 31 = .ok (.iconst 0, 1) := by decide +kernel
theorem dX8_passes_32 : decode cX8_passes 32 = .ok (.istore_n 3, 1) := by decide +kernel
theorem dX8_passes_33 : decode cX8_passes 33 = .ok (.iload_n 3, 1) := by decide +kernel
theorem dX8_passes_34 : decode cX8_passes 34 = .ok (.iload_n 1, 1) := by decide +kernel
theorem dX8_passes_35 : decode cX8_passes 35 = .ok (.if_icmp .ge 105, 3) := by decide +kernel
theorem dX8_passes_38 : decode cX8_passes 38 = .ok (.aload_n 0, 1) := by decide +kernel
theorem dX8_passes_39 : decode cX8_passes 39 = .ok (.getfield 7, 3) := by decide +kernel
theorem dX8_passes_42 : decode cX8_passes 42 = .ok (.iconst 1, 1) := by decide +kernel
theorem dX8_passes_43 : decode cX8_passes 43 = .ok (.dup2, 1) := by decide +kernel
theorem dX8_passes_44 : decode cX8_passes 44 = .ok (.iaload, 1) := by decide +kernel
theorem dX8_passes_45 : decode cX8_passes 45 = .ok (.iconst 1, 1) := by decide +kernel
theorem dX8_passes_46 : decode cX8_passes 46 = .ok (.iadd, 1) := by decide +kernel
theorem dX8_passes_47 : decode cX8_passes 47 = .ok (.iastore, 1) := by decide +kernel
theorem dX8_passes_48 : decode cX8_passes 48 = .ok (.aload_n 0, 1) := by decide +kernel
theorem dX8_passes_49 : decode cX8_passes 49 = .ok (.iconst (-1), 1) := by decide +kernel
theorem dX8_passes_50 : decode cX8_passes 50 = .ok (.iconst (-1), 1) := by decide +kernel
theorem dX8_passes_51 : decode cX8_passes 51 = .ok (.invokevirtual 33, 3) := by decide +kernel
theorem dX8_passes_54 : decode cX8_passes 54 = .ok (.istore 4, 2) := by decide +kernel
theorem dX8_passes_56 : decode cX8_passes 56 = .ok (.iload 4, 2) := by decide +kernel
theorem dX8_passes_58 : decode cX8_passes 58 = .ok (.ifCond .lt 76, 3) := by decide +kernel
theorem dX8_passes_61 : decode cX8_passes 61 = .ok (.aload_n 0, 1) := by decide +kernel
theorem dX8_passes_62 : decode cX8_passes 62 = .ok (.getfield 7, 3) := by decide +kernel
theorem dX8_passes_65 : decode cX8_passes 65 = .ok (.sipush 392, 3) := by decide +kernel
theorem dX8_passes_68 : decode cX8_passes 68 = .ok (.iload 4, 2) := by decide +kernel
theorem dX8_passes_70 : decode cX8_passes 70 = .ok (.iadd, 1) := by decide +kernel
theorem dX8_passes_71 : decode cX8_passes 71 = .ok (.iaload, 1) := by decide +kernel
theorem dX8_passes_72 : decode cX8_passes 72 = .ok (.aload_n 0, 1) := by decide +kernel
theorem dX8_passes_73 : decode cX8_passes 73 = .ok (.getfield 7, 3) := by decide +kernel
theorem dX8_passes_76 : decode cX8_passes 76 = .ok (.iconst 1, 1) := by decide +kernel
theorem dX8_passes_77 : decode cX8_passes 77 = .ok (.iaload, 1) := by decide +kernel
theorem dX8_passes_78 : decode cX8_passes 78 = .ok (.if_icmp .ge 56, 3) := by decide +kernel
theorem dX8_passes_81 : decode cX8_passes 81 = .ok (.aload_n 0, 1) := by decide +kernel
theorem dX8_passes_82 : decode cX8_passes 82 = .ok (.getfield 7, 3) := by decide +kernel
theorem dX8_passes_85 : decode cX8_passes 85 = .ok (.sipush 272, 3) := by decide +kernel
theorem dX8_passes_88 : decode cX8_passes 88 = .ok (.iload 4, 2) := by decide +kernel
theorem dX8_passes_90 : decode cX8_passes 90 = .ok (.iadd, 1) := by decide +kernel
theorem dX8_passes_91 : decode cX8_passes 91 = .ok (.iaload, 1) := by decide +kernel
theorem dX8_passes_92 : decode cX8_passes 92 = .ok (.istore 5, 2) := by decide +kernel
theorem dX8_passes_94 : decode cX8_passes 94 = .ok (.iload_n 2, 1) := by decide +kernel
theorem dX8_passes_95 : decode cX8_passes 95 = .ok (.aload_n 0, 1) := by decide +kernel
theorem dX8_passes_96 : decode cX8_passes 96 = .ok (.iload 4, 2) := by decide +kernel
theorem dX8_passes_98 : decode cX8_passes 98 = .ok (.iload 5, 2) := by decide +kernel
theorem dX8_passes_100 : decode cX8_passes 100 = .ok (.iconst 3, 1) := by decide +kernel
theorem dX8_passes_101 : decode cX8_passes 101 = .ok (.invokevirtual 42, 3) := by decide +kernel
theorem dX8_passes_104 : decode cX8_passes 104 = .ok (.iadd, 1) := by decide +kernel
theorem dX8_passes_105 : decode cX8_passes 105 = .ok (.istore_n 2, 1) := by decide +kernel
theorem dX8_passes_106 : decode cX8_passes 106 = .ok (.aload_n 0, 1) := by decide +kernel
theorem dX8_passes_107 : decode cX8_passes 107 = .ok (.aload_n 0, 1) := by decide +kernel
theorem dX8_passes_108 : decode cX8_passes 108 = .ok (.getfield 7, 3) := by decide +kernel
theorem dX8_passes_111 : decode cX8_passes 111 = .ok (.sipush 152, 3) := by decide +kernel
theorem dX8_passes_114 : decode cX8_passes 114 = .ok (.iload 4, 2) := by decide +kernel
theorem dX8_passes_116 : decode cX8_passes 116 = .ok (.iadd, 1) := by decide +kernel
theorem dX8_passes_117 : decode cX8_passes 117 = .ok (.iaload, 1) := by decide +kernel
theorem dX8_passes_118 : decode cX8_passes 118 = .ok (.iload 5, 2) := by decide +kernel
theorem dX8_passes_120 : decode cX8_passes 120 = .ok (.invokevirtual 123, 3) := by decide +kernel
theorem dX8_passes_123 : decode cX8_passes 123 = .ok (.aload_n 0, 1) := by decide +kernel
theorem dX8_passes_124 : decode cX8_passes 124 = .ok (.iconst (-1), 1) := by decide +kernel
theorem dX8_passes_125 : decode cX8_passes 125 = .ok (.iconst (-1), 1) := by decide +kernel
theorem dX8_passes_126 : decode cX8_passes 126 = .ok (.invokevirtual 33, 3) := by decide +kernel
theorem dX8_passes_129 : decode cX8_passes 129 = .ok (.istore 4, 2) := by decide +kernel
theorem dX8_passes_131 : decode cX8_passes 131 = .ok (.goto (-75), 3) := by decide +kernel
theorem dX8_passes_134 : decode cX8_passes 134 = .ok (.iinc 3 1, 3) := by decide +kernel
theorem dX8_passes_137 : decode cX8_passes 137 = .ok (.goto (-104), 3) := by decide +kernel
theorem dX8_passes_140 : decode cX8_passes 140 = .ok (.iload_n 2, 1) := by decide +kernel
theorem dX8_passes_141 : decode cX8_passes 141 = .ok (.ireturn, 1) := by decide +kernel
theorem dX8_pass_0 : decode cX8_pass 0 = .ok (.aload_n 0, 1) := by decide +kernel
theorem dX8_pass_1 : decode cX8_pass 1 = .ok (.invokevirtual 54, 3) := by decide +kernel
theorem dX8_pass_4 : decode cX8_pass 4 = .ok (.aload_n 0, 1) := by decide +kernel
theorem dX8_pass_5 : decode cX8_pass 5 = .ok (.aload_n 0, 1) := by decide +kernel
theorem dX8_pass_6 : decode cX8_pass 6 = .ok (.iload_n 1, 1) := by decide +kernel
theorem dX8_pass_7 : decode cX8_pass 7 = .ok (.invokevirtual 126, 3) := by decide +kernel
theorem dX8_pass_10 : decode cX8_pass 10 = .ok (.invokevirtual 61, 3) := by decide +kernel
theorem dX8_pass_13 : decode cX8_pass 13 = .ok (.ireturn, 1) := by decide +kernel
theorem dX8_set_0 : decode cX8_set 0 = .ok (.iload_n 1, 1) := by decide +kernel
theorem dX8_set_1 : decode cX8_set 1 = .ok (.iconst 0, 1) := by decide +kernel
theorem dX8_set_2 : decode cX8_set 2 = .ok (.iconst 1, 1) := by decide +kernel
theorem dX8_set_3 : decode cX8_set 3 = .ok (.invokestatic 22, 3) := by decide +kernel
theorem dX8_set_6 : decode cX8_set 6 = .ok (.ifCond .eq 22, 3) := by decide +kernel
theorem dX8_set_9 : decode cX8_set 9 = .ok (.iload_n 2, 1) := by decide +kernel
theorem dX8_set_10 : decode cX8_set 10 = .ok (.iload_n 1, 1) := by decide +kernel
theorem dX8_set_11 : decode cX8_set 11 = .ok (.iload_n 1, 1) := by decide +kernel
theorem dX8_set_12 : decode cX8_set 12 = .ok (.ifCond .ne 8, 3) := by decide +kernel
theorem dX8_set_15 : decode cX8_set 15 = .ok (.ldc 129, 2) := by decide +kernel
theorem dX8_set_17 : decode cX8_set 17 = .ok (.goto 5, 3) := by decide +kernel
theorem dX8_set_20 : decode cX8_set 20 = .ok (.bipush 99, 2) := by decide +kernel
theorem dX8_set_22 : decode cX8_set 22 = .ok (.invokestatic 22, 3) := by decide +kernel
theorem dX8_set_25 : decode cX8_set 25 = .ok (.ifCond .ne 5, 3) := by decide +kernel
theorem dX8_set_28 : decode cX8_set 28 = .ok (.iconst (-1), 1) := by decide +kernel
theorem dX8_set_29 : decode cX8_set 29 = .ok (.ireturn, 1) := by decide +kernel
theorem dX8_set_30 : decode cX8_set 30 = .ok (.aload_n 0, 1) := by decide +kernel
theorem dX8_set_31 : decode cX8_set 31 = .ok (.invokevirtual 54, 3) := by decide +kernel
theorem dX8_set_34 : decode cX8_set 34 = .ok (.aload_n 0, 1) := by decide +kernel
theorem dX8_set_35 : decode cX8_set 35 = .ok (.getfield 7, 3) := by decide +kernel
theorem dX8_set_38 : decode cX8_set 38 = .ok (.iconst 2, 1) := by decide +kernel
theorem dX8_set_39 : decode cX8_set 39 = .ok (.iload_n 1, 1) := by decide +kernel
theorem dX8_set_40 : decode cX8_set 40 = .ok (.iadd, 1) := by decide +kernel
theorem dX8_set_41 : decode cX8_set 41 = .ok (.iaload, 1) := by decide +kernel
theorem dX8_set_42 : decode cX8_set 42 = .ok (.istore_n 3, 1) := by decide +kernel
theorem dX8_set_43 : decode cX8_set 43 = .ok (.aload_n 0, 1) := by decide +kernel
theorem dX8_set_44 : decode cX8_set 44 = .ok (.getfield 7, 3) := by decide +kernel
theorem dX8_set_47 : decode cX8_set 47 = .ok (.iconst 2, 1) := by decide +kernel
theorem dX8_set_48 : decode cX8_set 48 = .ok (.iload_n 1, 1) := by decide +kernel
theorem dX8_set_49 : decode cX8_set 49 = .ok (.iadd, 1) := by decide +kernel
theorem dX8_set_50 : decode cX8_set 50 = .ok (.iload_n 2, 1) := by decide +kernel
theorem dX8_set_51 : decode cX8_set 51 = .ok (.iastore, 1) := by decide +kernel
theorem dX8_set_52 : decode cX8_set 52 = .ok (.aload_n 0, 1) := by decide +kernel
theorem dX8_set_53 : decode cX8_set 53 = .ok (.iload_n 3, 1) := by decide +kernel
theorem dX8_set_54 : decode cX8_set 54 = .ok (.invokevirtual 61, 3) := by decide +kernel
theorem dX8_set_57 : decode cX8_set 57 = .ok (.ireturn, 1) := by decide +kernel
theorem dX8_overLockers_0 : decode cX8_overLockers 0 = .ok (.iconst 0, 1) := by decide +kernel
theorem dX8_overLockers_1 : decode cX8_overLockers 1 = .ok (.istore_n 3, 1) := by decide +kernel
theorem dX8_overLockers_2 : decode cX8_overLockers 2 = .ok (.iconst 0, 1) := by decide +kernel
theorem dX8_overLockers_3 : decode cX8_overLockers 3 = .ok (.istore 4, 2) := by decide +kernel
theorem dX8_overLockers_5 : decode cX8_overLockers 5 = .ok (.iload 4, 2) := by decide +kernel
theorem dX8_overLockers_7 : decode cX8_overLockers 7 = .ok (.iconst 5, 1) := by decide +kernel
theorem dX8_overLockers_8 : decode cX8_overLockers 8 = .ok (.if_icmp .ge 26, 3) := by decide +kernel
theorem dX8_overLockers_11 : decode cX8_overLockers 11 = .ok (.iload_n 3, 1) := by decide +kernel
theorem dX8_overLockers_12 : decode cX8_overLockers 12 = .ok (.aload_n 0, 1) := by decide +kernel
theorem dX8_overLockers_13 : decode cX8_overLockers 13 = .ok (.getfield 7, 3) := by decide +kernel
theorem dX8_overLockers_16 : decode cX8_overLockers 16 = .ok (.iload_n 1, 1) := by decide +kernel
theorem dX8_overLockers_17 : decode cX8_overLockers 17 = .ok (.bipush 8, 2) := by decide +kernel
theorem dX8_overLockers_19 : decode cX8_overLockers 19 = .ok (.iload 4, 2) := by decide +kernel
theorem dX8_overLockers_21 : decode cX8_overLockers 21 = .ok (.imul, 1) := by decide +kernel
theorem dX8_overLockers_22 : decode cX8_overLockers 22 = .ok (.iadd, 1) := by decide +kernel
theorem dX8_overLockers_23 : decode cX8_overLockers 23 = .ok (.iload_n 2, 1) := by decide +kernel
theorem dX8_overLockers_24 : decode cX8_overLockers 24 = .ok (.iadd, 1) := by decide +kernel
theorem dX8_overLockers_25 : decode cX8_overLockers 25 = .ok (.iaload, 1) := by decide +kernel
theorem dX8_overLockers_26 : decode cX8_overLockers 26 = .ok (.iadd, 1) := by decide +kernel
theorem dX8_overLockers_27 : decode cX8_overLockers 27 = .ok (.istore_n 3, 1) := by decide +kernel
theorem dX8_overLockers_28 : decode cX8_overLockers 28 = .ok (.iinc 4 1, 3) := by decide +kernel
theorem dX8_overLockers_31 : decode cX8_overLockers 31 = .ok (.goto (-26), 3) := by decide +kernel
theorem dX8_overLockers_34 : decode cX8_overLockers 34 = .ok (.iload_n 3, 1) := by decide +kernel
theorem dX8_overLockers_35 : decode cX8_overLockers 35 = .ok (.ireturn, 1) := by decide +kernel
theorem dX8_account_0 : decode cX8_account 0 = .ok (.aload_n 0, 1) := by decide +kernel
theorem dX8_account_1 : decode cX8_account 1 = .ok (.iload_n 1, 1) := by decide +kernel
theorem dX8_account_2 : decode cX8_account 2 = .ok (.invokevirtual 72, 3) := by decide +kernel
theorem dX8_account_5 : decode cX8_account 5 = .ok (.ifCond .eq 13, 3) := by decide +kernel
theorem dX8_account_8 : decode cX8_account 8 = .ok (.iload_n 2, 1) := by decide +kernel
theorem dX8_account_9 : decode cX8_account 9 = .ok (.iconst 0, 1) := by decide +kernel
theorem dX8_account_10 : decode cX8_account 10 = .ok (.bipush 6, 2) := by decide +kernel
theorem dX8_account_12 : decode cX8_account 12 = .ok (.invokestatic 22, 3) := by decide +kernel
theorem dX8_account_15 : decode cX8_account 15 = .ok (.ifCond .ne 5, 3) := by decide +kernel
theorem dX8_account_18 : decode cX8_account 18 = .ok (.iconst (-1), 1) := by decide +kernel
theorem dX8_account_19 : decode cX8_account 19 = .ok (.ireturn, 1) := by decide +kernel
theorem dX8_account_20 : decode cX8_account 20 = .ok (.iload_n 2, 1) := by decide +kernel
theorem dX8_account_21 : decode cX8_account 21 = .ok (.tableswitch 53 0 2 #[27, 37, 45], 27) := by decide +kernel
theorem dX8_account_48 : decode cX8_account 48 = .ok (.aload_n 0, 1) := by decide +kernel
theorem dX8_account_49 : decode cX8_account 49 = .ok (.getfield 7, 3) := by decide +kernel
theorem dX8_account_52 : decode cX8_account 52 = .ok (.bipush 112, 2) := by decide +kernel
theorem dX8_account_54 : decode cX8_account 54 = .ok (.iload_n 1, 1) := by decide +kernel
theorem dX8_account_55 : decode cX8_account 55 = .ok (.iadd, 1) := by decide +kernel
theorem dX8_account_56 : decode cX8_account 56 = .ok (.iaload, 1) := by decide +kernel
theorem dX8_account_57 : decode cX8_account 57 = .ok (.ireturn, 1) := by decide +kernel
theorem dX8_account_58 : decode cX8_account 58 = .ok (.aload_n 0, 1) := by decide +kernel
theorem dX8_account_59 : decode cX8_account 59 = .ok (.bipush 24, 2) := by decide +kernel
theorem dX8_account_61 : decode cX8_account 61 = .ok (.iload_n 1, 1) := by decide +kernel
theorem dX8_account_62 : decode cX8_account 62 = .ok (.invokevirtual 130, 3) := by decide +kernel
theorem dX8_account_65 : decode cX8_account 65 = .ok (.ireturn, 1) := by decide +kernel
theorem dX8_account_66 : decode cX8_account 66 = .ok (.aload_n 0, 1) := by decide +kernel
theorem dX8_account_67 : decode cX8_account 67 = .ok (.bipush 64, 2) := by decide +kernel
theorem dX8_account_69 : decode cX8_account 69 = .ok (.iload_n 1, 1) := by decide +kernel
theorem dX8_account_70 : decode cX8_account 70 = .ok (.invokevirtual 130, 3) := by decide +kernel
theorem dX8_account_73 : decode cX8_account 73 = .ok (.ireturn, 1) := by decide +kernel
theorem dX8_account_74 : decode cX8_account 74 = .ok (.aload_n 0, 1) := by decide +kernel
theorem dX8_account_75 : decode cX8_account 75 = .ok (.getfield 7, 3) := by decide +kernel
theorem dX8_account_78 : decode cX8_account 78 = .ok (.bipush 120, 2) := by decide +kernel
theorem dX8_account_80 : decode cX8_account 80 = .ok (.iconst 4, 1) := by decide +kernel
theorem dX8_account_81 : decode cX8_account 81 = .ok (.iload_n 1, 1) := by decide +kernel
theorem dX8_account_82 : decode cX8_account 82 = .ok (.imul, 1) := by decide +kernel
theorem dX8_account_83 : decode cX8_account 83 = .ok (.iadd, 1) := by decide +kernel
theorem dX8_account_84 : decode cX8_account 84 = .ok (.iload_n 2, 1) := by decide +kernel
theorem dX8_account_85 : decode cX8_account 85 = .ok (.iadd, 1) := by decide +kernel
theorem dX8_account_86 : decode cX8_account 86 = .ok (.iconst 3, 1) := by decide +kernel
theorem dX8_account_87 : decode cX8_account 87 = .ok (.isub, 1) := by decide +kernel
theorem dX8_account_88 : decode cX8_account 88 = .ok (.iaload, 1) := by decide +kernel
theorem dX8_account_89 : decode cX8_account 89 = .ok (.ireturn, 1) := by decide +kernel
theorem dX8_cents_0 : decode cX8_cents 0 = .ok (.iload_n 1, 1) := by decide +kernel
theorem dX8_cents_1 : decode cX8_cents 1 = .ok (.iconst 0, 1) := by decide +kernel
theorem dX8_cents_2 : decode cX8_cents 2 = .ok (.bipush 6, 2) := by decide +kernel
theorem dX8_cents_4 : decode cX8_cents 4 = .ok (.invokestatic 22, 3) := by decide +kernel
theorem dX8_cents_7 : decode cX8_cents 7 = .ok (.ifCond .ne 5, 3) := by decide +kernel
theorem dX8_cents_10 : decode cX8_cents 10 = .ok (.iconst (-1), 1) := by decide +kernel
theorem dX8_cents_11 : decode cX8_cents 11 = .ok (.ireturn, 1) := by decide +kernel
theorem dX8_cents_12 : decode cX8_cents 12 = .ok (.iload_n 1, 1) := by decide +kernel
theorem dX8_cents_13 : decode cX8_cents 13 = .ok (.iconst 1, 1) := by decide +kernel
theorem dX8_cents_14 : decode cX8_cents 14 = .ok (.if_icmp .ne 50, 3) := by decide +kernel
theorem dX8_cents_17 : decode cX8_cents 17 = .ok (.iconst 0, 1) := by decide +kernel
theorem dX8_cents_18 : decode cX8_cents 18 = .ok (.istore_n 2, 1) := by decide +kernel
theorem dX8_cents_19 : decode cX8_cents 19 = .ok (.iconst 0, 1) := by decide +kernel
theorem dX8_cents_20 : decode cX8_cents 20 = .ok (.istore_n 3, 1) := by decide +kernel
theorem dX8_cents_21 : decode cX8_cents 21 = .ok (.iload_n 3, 1) := by decide +kernel
theorem dX8_cents_22 : decode cX8_cents 22 = .ok (.aload_n 0, 1) := by decide +kernel
theorem dX8_cents_23 : decode cX8_cents 23 = .ok (.getfield 7, 3) := by decide +kernel
theorem dX8_cents_26 : decode cX8_cents 26 = .ok (.bipush 6, 2) := by decide +kernel
theorem dX8_cents_28 : decode cX8_cents 28 = .ok (.iaload, 1) := by decide +kernel
theorem dX8_cents_29 : decode cX8_cents 29 = .ok (.if_icmp .ge 33, 3) := by decide +kernel
theorem dX8_cents_32 : decode cX8_cents 32 = .ok (.iload_n 2, 1) := by decide +kernel
theorem dX8_cents_33 : decode cX8_cents 33 = .ok (.aload_n 0, 1) := by decide +kernel
theorem dX8_cents_34 : decode cX8_cents 34 = .ok (.getfield 7, 3) := by decide +kernel
theorem dX8_cents_37 : decode cX8_cents 37 = .ok (.sipush 272, 3) := by decide +kernel
theorem dX8_cents_40 : decode cX8_cents 40 = .ok (.iload_n 3, 1) := by decide +kernel
theorem dX8_cents_41 : decode cX8_cents 41 = .ok (.iadd, 1) := by decide +kernel
theorem dX8_cents_42 : decode cX8_cents 42 = .ok (.iaload, 1) := by decide +kernel
theorem dX8_cents_43 : decode cX8_cents 43 = .ok (.aload_n 0, 1) := by decide +kernel
theorem dX8_cents_44 : decode cX8_cents 44 = .ok (.getfield 7, 3) := by decide +kernel
theorem dX8_cents_47 : decode cX8_cents 47 = .ok (.sipush 332, 3) := by decide +kernel
theorem dX8_cents_50 : decode cX8_cents 50 = .ok (.iload_n 3, 1) := by decide +kernel
theorem dX8_cents_51 : decode cX8_cents 51 = .ok (.iadd, 1) := by decide +kernel
theorem dX8_cents_52 : decode cX8_cents 52 = .ok (.iaload, 1) := by decide +kernel
theorem dX8_cents_53 : decode cX8_cents 53 = .ok (.imul, 1) := by decide +kernel
theorem dX8_cents_54 : decode cX8_cents 54 = .ok (.iadd, 1) := by decide +kernel
theorem dX8_cents_55 : decode cX8_cents 55 = .ok (.istore_n 2, 1) := by decide +kernel
theorem dX8_cents_56 : decode cX8_cents 56 = .ok (.iinc 3 1, 3) := by decide +kernel
theorem dX8_cents_59 : decode cX8_cents 59 = .ok (.goto (-38), 3) := by decide +kernel
theorem dX8_cents_62 : decode cX8_cents 62 = .ok (.iload_n 2, 1) := by decide +kernel
theorem dX8_cents_63 : decode cX8_cents 63 = .ok (.ireturn, 1) := by decide +kernel
theorem dX8_cents_64 : decode cX8_cents 64 = .ok (.iload_n 1, 1) := by decide +kernel
theorem dX8_cents_65 : decode cX8_cents 65 = .ok (.ifCond .ne 13, 3) := by decide +kernel
theorem dX8_cents_68 : decode cX8_cents 68 = .ok (.aload_n 0, 1) := by decide +kernel
theorem dX8_cents_69 : decode cX8_cents 69 = .ok (.getfield 7, 3) := by decide +kernel
theorem dX8_cents_72 : decode cX8_cents 72 = .ok (.bipush 9, 2) := by decide +kernel
theorem dX8_cents_74 : decode cX8_cents 74 = .ok (.iaload, 1) := by decide +kernel
theorem dX8_cents_75 : decode cX8_cents 75 = .ok (.goto 30, 3) := by decide +kernel
theorem dX8_cents_78 : decode cX8_cents 78 = .ok (.iload_n 1, 1) := by decide +kernel
theorem dX8_cents_79 : decode cX8_cents 79 = .ok (.bipush 6, 2) := by decide +kernel
theorem dX8_cents_81 : decode cX8_cents 81 = .ok (.if_icmp .ne 13, 3) := by decide +kernel
theorem dX8_cents_84 : decode cX8_cents 84 = .ok (.aload_n 0, 1) := by decide +kernel
theorem dX8_cents_85 : decode cX8_cents 85 = .ok (.getfield 7, 3) := by decide +kernel
theorem dX8_cents_88 : decode cX8_cents 88 = .ok (.bipush 8, 2) := by decide +kernel
theorem dX8_cents_90 : decode cX8_cents 90 = .ok (.iaload, 1) := by decide +kernel
theorem dX8_cents_91 : decode cX8_cents 91 = .ok (.goto 14, 3) := by decide +kernel
theorem dX8_cents_94 : decode cX8_cents 94 = .ok (.aload_n 0, 1) := by decide +kernel
theorem dX8_cents_95 : decode cX8_cents 95 = .ok (.getfield 7, 3) := by decide +kernel
theorem dX8_cents_98 : decode cX8_cents 98 = .ok (.bipush 10, 2) := by decide +kernel
theorem dX8_cents_100 : decode cX8_cents 100 = .ok (.iload_n 1, 1) := by decide +kernel
theorem dX8_cents_101 : decode cX8_cents 101 = .ok (.iadd, 1) := by decide +kernel
theorem dX8_cents_102 : decode cX8_cents 102 = .ok (.iconst 2, 1) := by decide +kernel
theorem dX8_cents_103 : decode cX8_cents 103 = .ok (.isub, 1) := by decide +kernel
theorem dX8_cents_104 : decode cX8_cents 104 = .ok (.iaload, 1) := by decide +kernel
theorem dX8_cents_105 : decode cX8_cents 105 = .ok (.ireturn, 1) := by decide +kernel
theorem dX8_count_0 : decode cX8_count 0 = .ok (.iconst 0, 1) := by decide +kernel
theorem dX8_count_1 : decode cX8_count 1 = .ok (.istore_n 2, 1) := by decide +kernel
theorem dX8_count_2 : decode cX8_count 2 = .ok (.iconst 0, 1) := by decide +kernel
theorem dX8_count_3 : decode cX8_count 3 = .ok (.istore_n 3, 1) := by decide +kernel
theorem dX8_count_4 : decode cX8_count 4 = .ok (.iload_n 3, 1) := by decide +kernel
theorem dX8_count_5 : decode cX8_count 5 = .ok (.aload_n 0, 1) := by decide +kernel
theorem dX8_count_6 : decode cX8_count 6 = .ok (.getfield 7, 3) := by decide +kernel
theorem dX8_count_9 : decode cX8_count 9 = .ok (.bipush 6, 2) := by decide +kernel
theorem dX8_count_11 : decode cX8_count 11 = .ok (.iaload, 1) := by decide +kernel
theorem dX8_count_12 : decode cX8_count 12 = .ok (.if_icmp .ge 30, 3) := by decide +kernel
theorem dX8_count_15 : decode cX8_count 15 = .ok (.iload_n 2, 1) := by decide +kernel
theorem dX8_count_16 : decode cX8_count 16 = .ok (.aload_n 0, 1) := by decide +kernel
theorem dX8_count_17 : decode cX8_count 17 = .ok (.getfield 7, 3) := by decide +kernel
theorem dX8_count_20 : decode cX8_count 20 = .ok (.sipush 272, 3) := by decide +kernel
theorem dX8_count_23 : decode cX8_count 23 = .ok (.iload_n 3, 1) := by decide +kernel
theorem dX8_count_24 : decode cX8_count 24 = .ok (.iadd, 1) := by decide +kernel
theorem dX8_count_25 : decode cX8_count 25 = .ok (.iaload, 1) := by decide +kernel
theorem dX8_count_26 : decode cX8_count 26 = .ok (.ifCond .le 7, 3) := by decide +kernel
theorem dX8_count_29 : decode cX8_count 29 = .ok (.iconst 1, 1) := by decide +kernel
theorem dX8_count_30 : decode cX8_count 30 = .ok (.goto 4, 3) := by decide +kernel
theorem dX8_count_33 : decode cX8_count 33 = .ok (.iconst 0, 1) := by decide +kernel
theorem dX8_count_34 : decode cX8_count 34 = .ok (.iadd, 1) := by decide +kernel
theorem dX8_count_35 : decode cX8_count 35 = .ok (.istore_n 2, 1) := by decide +kernel
theorem dX8_count_36 : decode cX8_count 36 = .ok (.iinc 3 1, 3) := by decide +kernel
theorem dX8_count_39 : decode cX8_count 39 = .ok (.goto (-35), 3) := by decide +kernel
theorem dX8_count_42 : decode cX8_count 42 = .ok (.iload_n 1, 1) := by decide +kernel
theorem dX8_count_43 : decode cX8_count 43 = .ok (.tableswitch 183 0 21 #[101, 108, 115, 123, 125, 133, 140, 147, 153, 159, 164, 183, 183, 183, 183, 183, 183, 183, 183, 183, 169, 176], 101) := by decide +kernel
theorem dX8_count_144 : decode cX8_count 144 = .ok (.aload_n 0, 1) := by decide +kernel
theorem dX8_count_145 : decode cX8_count 145 = .ok (.getfield 7, 3) := by decide +kernel
theorem dX8_count_148 : decode cX8_count 148 = .ok (.iconst 4, 1) := by decide +kernel
theorem dX8_count_149 : decode cX8_count 149 = .ok (.iaload, 1) := by decide +kernel
theorem dX8_count_150 : decode cX8_count 150 = .ok (.ireturn, 1) := by decide +kernel
theorem dX8_count_151 : decode cX8_count 151 = .ok (.aload_n 0, 1) := by decide +kernel
theorem dX8_count_152 : decode cX8_count 152 = .ok (.getfield 7, 3) := by decide +kernel
theorem dX8_count_155 : decode cX8_count 155 = .ok (.iconst 5, 1) := by decide +kernel
theorem dX8_count_156 : decode cX8_count 156 = .ok (.iaload, 1) := by decide +kernel
theorem dX8_count_157 : decode cX8_count 157 = .ok (.ireturn, 1) := by decide +kernel
theorem dX8_count_158 : decode cX8_count 158 = .ok (.aload_n 0, 1) := by decide +kernel
theorem dX8_count_159 : decode cX8_count 159 = .ok (.getfield 7, 3) := by decide +kernel
theorem dX8_count_162 : decode cX8_count 162 = .ok (.bipush 6, 2) := by decide +kernel
theorem dX8_count_164 : decode cX8_count 164 = .ok (.iaload, 1) := by decide +kernel
theorem dX8_count_165 : decode cX8_count 165 = .ok (.ireturn, 1) := by decide +kernel
theorem dX8_count_166 : decode cX8_count 166 = .ok (.iload_n 2, 1) := by decide +kernel
theorem dX8_count_167 : decode cX8_count 167 = .ok (.ireturn, 1) := by decide +kernel
theorem dX8_count_168 : decode cX8_count 168 = .ok (.aload_n 0, 1) := by decide +kernel
theorem dX8_count_169 : decode cX8_count 169 = .ok (.getfield 7, 3) := by decide +kernel
theorem dX8_count_172 : decode cX8_count 172 = .ok (.bipush 7, 2) := by decide +kernel
theorem dX8_count_174 : decode cX8_count 174 = .ok (.iaload, 1) := by decide +kernel
theorem dX8_count_175 : decode cX8_count 175 = .ok (.ireturn, 1) := by decide +kernel
theorem dX8_count_176 : decode cX8_count 176 = .ok (.aload_n 0, 1) := by decide +kernel
theorem dX8_count_177 : decode cX8_count 177 = .ok (.getfield 7, 3) := by decide +kernel
theorem dX8_count_180 : decode cX8_count 180 = .ok (.iconst 0, 1) := by decide +kernel
theorem dX8_count_181 : decode cX8_count 181 = .ok (.iaload, 1) := by decide +kernel
theorem dX8_count_182 : decode cX8_count 182 = .ok (.ireturn, 1) := by decide +kernel
theorem dX8_count_183 : decode cX8_count 183 = .ok (.aload_n 0, 1) := by decide +kernel
theorem dX8_count_184 : decode cX8_count 184 = .ok (.getfield 7, 3) := by decide +kernel
theorem dX8_count_187 : decode cX8_count 187 = .ok (.iconst 1, 1) := by decide +kernel
theorem dX8_count_188 : decode cX8_count 188 = .ok (.iaload, 1) := by decide +kernel
theorem dX8_count_189 : decode cX8_count 189 = .ok (.ireturn, 1) := by decide +kernel
theorem dX8_count_190 : decode cX8_count 190 = .ok (.aload_n 0, 1) := by decide +kernel
theorem dX8_count_191 : decode cX8_count 191 = .ok (.iconst 1, 1) := by decide +kernel
theorem dX8_count_192 : decode cX8_count 192 = .ok (.invokevirtual 117, 3) := by decide +kernel
theorem dX8_count_195 : decode cX8_count 195 = .ok (.ireturn, 1) := by decide +kernel
theorem dX8_count_196 : decode cX8_count 196 = .ok (.aload_n 0, 1) := by decide +kernel
theorem dX8_count_197 : decode cX8_count 197 = .ok (.iconst 2, 1) := by decide +kernel
theorem dX8_count_198 : decode cX8_count 198 = .ok (.invokevirtual 117, 3) := by decide +kernel
theorem dX8_count_201 : decode cX8_count 201 = .ok (.ireturn, 1) := by decide +kernel
theorem dX8_count_202 : decode cX8_count 202 = .ok (.aload_n 0, 1) := by decide +kernel
theorem dX8_count_203 : decode cX8_count 203 = .ok (.getfield 30, 3) := by decide +kernel
theorem dX8_count_206 : decode cX8_count 206 = .ok (.ireturn, 1) := by decide +kernel
theorem dX8_count_207 : decode cX8_count 207 = .ok (.aload_n 0, 1) := by decide +kernel
theorem dX8_count_208 : decode cX8_count 208 = .ok (.getfield 133, 3) := by decide +kernel
theorem dX8_count_211 : decode cX8_count 211 = .ok (.ireturn, 1) := by decide +kernel
theorem dX8_count_212 : decode cX8_count 212 = .ok (.aload_n 0, 1) := by decide +kernel
theorem dX8_count_213 : decode cX8_count 213 = .ok (.getfield 7, 3) := by decide +kernel
theorem dX8_count_216 : decode cX8_count 216 = .ok (.iconst 2, 1) := by decide +kernel
theorem dX8_count_217 : decode cX8_count 217 = .ok (.iaload, 1) := by decide +kernel
theorem dX8_count_218 : decode cX8_count 218 = .ok (.ireturn, 1) := by decide +kernel
theorem dX8_count_219 : decode cX8_count 219 = .ok (.aload_n 0, 1) := by decide +kernel
theorem dX8_count_220 : decode cX8_count 220 = .ok (.getfield 7, 3) := by decide +kernel
theorem dX8_count_223 : decode cX8_count 223 = .ok (.iconst 3, 1) := by decide +kernel
theorem dX8_count_224 : decode cX8_count 224 = .ok (.iaload, 1) := by decide +kernel
theorem dX8_count_225 : decode cX8_count 225 = .ok (.ireturn, 1) := by decide +kernel
theorem dX8_count_226 : decode cX8_count 226 = .ok (.iconst (-1), 1) := by decide +kernel
theorem dX8_count_227 : decode cX8_count 227 = .ok (.ireturn, 1) := by decide +kernel
theorem dX8_worth_0 : decode cX8_worth 0 = .ok (.aload_n 0, 1) := by decide +kernel
theorem dX8_worth_1 : decode cX8_worth 1 = .ok (.iload_n 1, 1) := by decide +kernel
theorem dX8_worth_2 : decode cX8_worth 2 = .ok (.invokevirtual 72, 3) := by decide +kernel
theorem dX8_worth_5 : decode cX8_worth 5 = .ok (.ifCond .eq 13, 3) := by decide +kernel
theorem dX8_worth_8 : decode cX8_worth 8 = .ok (.iload_n 2, 1) := by decide +kernel
theorem dX8_worth_9 : decode cX8_worth 9 = .ok (.iconst 1, 1) := by decide +kernel
theorem dX8_worth_10 : decode cX8_worth 10 = .ok (.ldc 81, 2) := by decide +kernel
theorem dX8_worth_12 : decode cX8_worth 12 = .ok (.invokestatic 22, 3) := by decide +kernel
theorem dX8_worth_15 : decode cX8_worth 15 = .ok (.ifCond .ne 5, 3) := by decide +kernel
theorem dX8_worth_18 : decode cX8_worth 18 = .ok (.iconst (-1), 1) := by decide +kernel
theorem dX8_worth_19 : decode cX8_worth 19 = .ok (.ireturn, 1) := by decide +kernel
theorem dX8_worth_20 : decode cX8_worth 20 = .ok (.aload_n 0, 1) := by decide +kernel
theorem dX8_worth_21 : decode cX8_worth 21 = .ok (.iload_n 1, 1) := by decide +kernel
theorem dX8_worth_22 : decode cX8_worth 22 = .ok (.iload_n 2, 1) := by decide +kernel
theorem dX8_worth_23 : decode cX8_worth 23 = .ok (.invokevirtual 110, 3) := by decide +kernel
theorem dX8_worth_26 : decode cX8_worth 26 = .ok (.lstore_n 3, 1) := by decide +kernel
theorem dX8_worth_27 : decode cX8_worth 27 = .ok (.lload_n 3, 1) := by decide +kernel
theorem dX8_worth_28 : decode cX8_worth 28 = .ok (.lconst 0, 1) := by decide +kernel
theorem dX8_worth_29 : decode cX8_worth 29 = .ok (.lcmp, 1) := by decide +kernel
theorem dX8_worth_30 : decode cX8_worth 30 = .ok (.ifCond .ge 8, 3) := by decide +kernel
theorem dX8_worth_33 : decode cX8_worth 33 = .ok (.bipush (-4), 2) := by decide +kernel
theorem dX8_worth_35 : decode cX8_worth 35 = .ok (.goto 5, 3) := by decide +kernel
theorem dX8_worth_38 : decode cX8_worth 38 = .ok (.lload_n 3, 1) := by decide +kernel
theorem dX8_worth_39 : decode cX8_worth 39 = .ok (.l2i, 1) := by decide +kernel
theorem dX8_worth_40 : decode cX8_worth 40 = .ok (.ireturn, 1) := by decide +kernel
theorem dX8_toPay_0 : decode cX8_toPay 0 = .ok (.aload_n 0, 1) := by decide +kernel
theorem dX8_toPay_1 : decode cX8_toPay 1 = .ok (.iconst 2, 1) := by decide +kernel
theorem dX8_toPay_2 : decode cX8_toPay 2 = .ok (.invokevirtual 117, 3) := by decide +kernel
theorem dX8_toPay_5 : decode cX8_toPay 5 = .ok (.i2l, 1) := by decide +kernel
theorem dX8_toPay_6 : decode cX8_toPay 6 = .ok (.aload_n 0, 1) := by decide +kernel
theorem dX8_toPay_7 : decode cX8_toPay 7 = .ok (.getfield 7, 3) := by decide +kernel
theorem dX8_toPay_10 : decode cX8_toPay 10 = .ok (.iconst 2, 1) := by decide +kernel
theorem dX8_toPay_11 : decode cX8_toPay 11 = .ok (.iaload, 1) := by decide +kernel
theorem dX8_toPay_12 : decode cX8_toPay 12 = .ok (.i2l, 1) := by decide +kernel
theorem dX8_toPay_13 : decode cX8_toPay 13 = .ok (.lmul, 1) := by decide +kernel
theorem dX8_toPay_14 : decode cX8_toPay 14 = .ok (.lstore_n 1, 1) := by decide +kernel
theorem dX8_toPay_15 : decode cX8_toPay 15 = .ok (.iconst 0, 1) := by decide +kernel
theorem dX8_toPay_16 : decode cX8_toPay 16 = .ok (.istore_n 3, 1) := by decide +kernel
theorem dX8_toPay_17 : decode cX8_toPay 17 = .ok (.iload_n 3, 1) := by decide +kernel
theorem dX8_toPay_18 : decode cX8_toPay 18 = .ok (.aload_n 0, 1) := by decide +kernel
theorem dX8_toPay_19 : decode cX8_toPay 19 = .ok (.getfield 7, 3) := by decide +kernel
theorem dX8_toPay_22 : decode cX8_toPay 22 = .ok (.iconst 5, 1) := by decide +kernel
theorem dX8_toPay_23 : decode cX8_toPay 23 = .ok (.iaload, 1) := by decide +kernel
theorem dX8_toPay_24 : decode cX8_toPay 24 = .ok (.if_icmp .ge 24, 3) := by decide +kernel
theorem dX8_toPay_27 : decode cX8_toPay 27 = .ok (.lload_n 1, 1) := by decide +kernel
theorem dX8_toPay_28 : decode cX8_toPay 28 = .ok (.aload_n 0, 1) := by decide +kernel
theorem dX8_toPay_29 : decode cX8_toPay 29 = .ok (.iload_n 3, 1) := by decide +kernel
theorem dX8_toPay_30 : decode cX8_toPay 30 = .ok (.aload_n 0, 1) := by decide +kernel
theorem dX8_toPay_31 : decode cX8_toPay 31 = .ok (.bipush 64, 2) := by decide +kernel
theorem dX8_toPay_33 : decode cX8_toPay 33 = .ok (.iload_n 3, 1) := by decide +kernel
theorem dX8_toPay_34 : decode cX8_toPay 34 = .ok (.invokevirtual 130, 3) := by decide +kernel
theorem dX8_toPay_37 : decode cX8_toPay 37 = .ok (.invokevirtual 110, 3) := by decide +kernel
theorem dX8_toPay_40 : decode cX8_toPay 40 = .ok (.ladd, 1) := by decide +kernel
theorem dX8_toPay_41 : decode cX8_toPay 41 = .ok (.lstore_n 1, 1) := by decide +kernel
theorem dX8_toPay_42 : decode cX8_toPay 42 = .ok (.iinc 3 1, 3) := by decide +kernel
theorem dX8_toPay_45 : decode cX8_toPay 45 = .ok (.goto (-28), 3) := by decide +kernel
theorem dX8_toPay_48 : decode cX8_toPay 48 = .ok (.lload_n 1, 1) := by decide +kernel
theorem dX8_toPay_49 : decode cX8_toPay 49 = .ok (.ldc2_w 82, 3) := by decide +kernel
theorem dX8_toPay_52 : decode cX8_toPay 52 = .ok (.lcmp, 1) := by decide +kernel
theorem dX8_toPay_53 : decode cX8_toPay 53 = .ok (.ifCond .le 8, 3) := by decide +kernel
theorem dX8_toPay_56 : decode cX8_toPay 56 = .ok (.bipush (-3), 2) := by decide +kernel
theorem dX8_toPay_58 : decode cX8_toPay 58 = .ok (.goto 5, 3) := by decide +kernel
theorem dX8_toPay_61 : decode cX8_toPay 61 = .ok (.lload_n 1, 1) := by decide +kernel
theorem dX8_toPay_62 : decode cX8_toPay 62 = .ok (.l2i, 1) := by decide +kernel
theorem dX8_toPay_63 : decode cX8_toPay 63 = .ok (.ireturn, 1) := by decide +kernel
theorem dX8_runsOut_0 : decode cX8_runsOut 0 = .ok (.aload_n 0, 1) := by decide +kernel
theorem dX8_runsOut_1 : decode cX8_runsOut 1 = .ok (.iconst (-1), 1) := by decide +kernel
theorem dX8_runsOut_2 : decode cX8_runsOut 2 = .ok (.iconst (-1), 1) := by decide +kernel
theorem dX8_runsOut_3 : decode cX8_runsOut 3 = .ok (.invokevirtual 33, 3) := by decide +kernel
theorem dX8_runsOut_6 : decode cX8_runsOut 6 = .ok (.istore_n 1, 1) := by decide +kernel
theorem dX8_runsOut_7 : decode cX8_runsOut 7 = .ok (.iload_n 1, 1) := by decide +kernel
theorem dX8_runsOut_8 : decode cX8_runsOut 8 = .ok (.ifCond .ge 8, 3) := by decide +kernel
theorem dX8_runsOut_11 : decode cX8_runsOut 11 = .ok (.bipush (-4), 2) := by decide +kernel
theorem dX8_runsOut_13 : decode cX8_runsOut 13 = .ok (.goto 22, 3) := by decide +kernel
theorem dX8_runsOut_16 : decode cX8_runsOut 16 = .ok (.aload_n 0, 1) := by decide +kernel
theorem dX8_runsOut_17 : decode cX8_runsOut 17 = .ok (.getfield 7, 3) := by decide +kernel
theorem dX8_runsOut_20 : decode cX8_runsOut 20 = .ok (.sipush 392, 3) := by decide +kernel
theorem dX8_runsOut_23 : decode cX8_runsOut 23 = .ok (.iload_n 1, 1) := by decide +kernel
theorem dX8_runsOut_24 : decode cX8_runsOut 24 = .ok (.iadd, 1) := by decide +kernel
theorem dX8_runsOut_25 : decode cX8_runsOut 25 = .ok (.iaload, 1) := by decide +kernel
theorem dX8_runsOut_26 : decode cX8_runsOut 26 = .ok (.iconst 1, 1) := by decide +kernel
theorem dX8_runsOut_27 : decode cX8_runsOut 27 = .ok (.iadd, 1) := by decide +kernel
theorem dX8_runsOut_28 : decode cX8_runsOut 28 = .ok (.aload_n 0, 1) := by decide +kernel
theorem dX8_runsOut_29 : decode cX8_runsOut 29 = .ok (.getfield 7, 3) := by decide +kernel
theorem dX8_runsOut_32 : decode cX8_runsOut 32 = .ok (.iconst 1, 1) := by decide +kernel
theorem dX8_runsOut_33 : decode cX8_runsOut 33 = .ok (.iaload, 1) := by decide +kernel
theorem dX8_runsOut_34 : decode cX8_runsOut 34 = .ok (.isub, 1) := by decide +kernel
theorem dX8_runsOut_35 : decode cX8_runsOut 35 = .ok (.ireturn, 1) := by decide +kernel
theorem dX8_type_0 : decode cX8_type 0 = .ok (.iload_n 1, 1) := by decide +kernel
theorem dX8_type_1 : decode cX8_type 1 = .ok (.bipush 32, 2) := by decide +kernel
theorem dX8_type_3 : decode cX8_type 3 = .ok (.bipush 126, 2) := by decide +kernel
theorem dX8_type_5 : decode cX8_type 5 = .ok (.invokestatic 22, 3) := by decide +kernel
theorem dX8_type_8 : decode cX8_type 8 = .ok (.ifCond .ne 5, 3) := by decide +kernel
theorem dX8_type_11 : decode cX8_type 11 = .ok (.iconst (-1), 1) := by decide +kernel
theorem dX8_type_12 : decode cX8_type 12 = .ok (.ireturn, 1) := by decide +kernel
theorem dX8_type_13 : decode cX8_type 13 = .ok (.aload_n 0, 1) := by decide +kernel
theorem dX8_type_14 : decode cX8_type 14 = .ok (.getfield 133, 3) := by decide +kernel
theorem dX8_type_17 : decode cX8_type 17 = .ok (.bipush 80, 2) := by decide +kernel
theorem dX8_type_19 : decode cX8_type 19 = .ok (.if_icmp .ne 6, 3) := by decide +kernel
theorem dX8_type_22 : decode cX8_type 22 = .ok (.bipush (-3), 2) := by decide +kernel
theorem dX8_type_24 : decode cX8_type 24 = .ok (.ireturn, 1) := by decide +kernel
theorem dX8_type_25 : decode cX8_type 25 = .ok (.aload_n 0, 1) := by decide +kernel
theorem dX8_type_26 : decode cX8_type 26 = .ok (.getfield 19, 3) := by decide +kernel
theorem dX8_type_29 : decode cX8_type 29 = .ok (.aload_n 0, 1) := by decide +kernel
theorem dX8_type_30 : decode cX8_type 30 = .ok (.getfield 133, 3) := by decide +kernel
theorem dX8_type_33 : decode cX8_type 33 = .ok (.iload_n 1, 1) := by decide +kernel
theorem dX8_type_34 : decode cX8_type 34 = .ok (.iastore, 1) := by decide +kernel
theorem dX8_type_35 : decode cX8_type 35 = .ok (.aload_n 0, 1) := by decide +kernel
theorem dX8_type_36 : decode cX8_type 36 = .ok (.dup, 1) := by decide +kernel
theorem dX8_type_37 : decode cX8_type 37 = .ok (.getfield 133, 3) := by decide +kernel
theorem dX8_type_40 : decode cX8_type 40 = .ok (.iconst 1, 1) := by decide +kernel
theorem dX8_type_41 : decode cX8_type 41 = .ok (.iadd, 1) := by decide +kernel
theorem dX8_type_42 : decode cX8_type 42 = .ok (.putfield 133, 3) := by decide +kernel
theorem dX8_type_45 : decode cX8_type 45 = .ok (.aload_n 0, 1) := by decide +kernel
theorem dX8_type_46 : decode cX8_type 46 = .ok (.getfield 133, 3) := by decide +kernel
theorem dX8_type_49 : decode cX8_type 49 = .ok (.ireturn, 1) := by decide +kernel
theorem dX8_clearText_0 : decode cX8_clearText 0 = .ok (.aload_n 0, 1) := by decide +kernel
theorem dX8_clearText_1 : decode cX8_clearText 1 = .ok (.getfield 133, 3) := by decide +kernel
theorem dX8_clearText_4 : decode cX8_clearText 4 = .ok (.istore_n 1, 1) := by decide +kernel
theorem dX8_clearText_5 : decode cX8_clearText 5 = .ok (.aload_n 0, 1) := by decide +kernel
theorem dX8_clearText_6 : decode cX8_clearText 6 = .ok (.iconst 0, 1) := by decide +kernel
theorem dX8_clearText_7 : decode cX8_clearText 7 = .ok (.putfield 133, 3) := by decide +kernel
theorem dX8_clearText_10 : decode cX8_clearText 10 = .ok (.iload_n 1, 1) := by decide +kernel
theorem dX8_clearText_11 : decode cX8_clearText 11 = .ok (.ireturn, 1) := by decide +kernel
theorem dX8_here_0 : decode cX8_here 0 = .ok (.aload_n 0, 1) := by decide +kernel
theorem dX8_here_1 : decode cX8_here 1 = .ok (.getfield 136, 3) := by decide +kernel
theorem dX8_here_4 : decode cX8_here 4 = .ok (.aload_n 0, 1) := by decide +kernel
theorem dX8_here_5 : decode cX8_here 5 = .ok (.getfield 133, 3) := by decide +kernel
theorem dX8_here_8 : decode cX8_here 8 = .ok (.if_icmp .ge 15, 3) := by decide +kernel
theorem dX8_here_11 : decode cX8_here 11 = .ok (.aload_n 0, 1) := by decide +kernel
theorem dX8_here_12 : decode cX8_here 12 = .ok (.getfield 19, 3) := by decide +kernel
theorem dX8_here_15 : decode cX8_here 15 = .ok (.aload_n 0, 1) := by decide +kernel
theorem dX8_here_16 : decode cX8_here 16 = .ok (.getfield 136, 3) := by decide +kernel
theorem dX8_here_19 : decode cX8_here 19 = .ok (.iaload, 1) := by decide +kernel
theorem dX8_here_20 : decode cX8_here 20 = .ok (.goto 4, 3) := by decide +kernel
theorem dX8_here_23 : decode cX8_here 23 = .ok (.iconst 0, 1) := by decide +kernel
theorem dX8_here_24 : decode cX8_here 24 = .ok (.ireturn, 1) := by decide +kernel
theorem dX8_passesSign_0 : decode cX8_passesSign 0 = .ok (.aload_n 0, 1) := by decide +kernel
theorem dX8_passesSign_1 : decode cX8_passesSign 1 = .ok (.aload_n 0, 1) := by decide +kernel
theorem dX8_passesSign_2 : decode cX8_passesSign 2 = .ok (.getfield 139, 3) := by decide +kernel
theorem dX8_passesSign_5 : decode cX8_passesSign 5 = .ok (.ifCond .eq 15, 3) := by decide +kernel
theorem dX8_passesSign_8 : decode cX8_passesSign 8 = .ok (.aload_n 0, 1) := by decide +kernel
theorem dX8_passesSign_9 : decode cX8_passesSign 9 = .ok (.invokevirtual 143, 3) := by decide +kernel
theorem dX8_passesSign_12 : decode cX8_passesSign 12 = .ok (.iload_n 1, 1) := by decide +kernel
theorem dX8_passesSign_13 : decode cX8_passesSign 13 = .ok (.if_icmp .ne 7, 3) := by decide +kernel
theorem dX8_passesSign_16 : decode cX8_passesSign 16 = .ok (.iconst 1, 1) := by decide +kernel
theorem dX8_passesSign_17 : decode cX8_passesSign 17 = .ok (.goto 4, 3) := by decide +kernel
theorem dX8_passesSign_20 : decode cX8_passesSign 20 = .ok (.iconst 0, 1) := by decide +kernel
theorem dX8_passesSign_21 : decode cX8_passesSign 21 = .ok (.putfield 139, 3) := by decide +kernel
theorem dX8_passesSign_24 : decode cX8_passesSign 24 = .ok (.aload_n 0, 1) := by decide +kernel
theorem dX8_passesSign_25 : decode cX8_passesSign 25 = .ok (.dup, 1) := by decide +kernel
theorem dX8_passesSign_26 : decode cX8_passesSign 26 = .ok (.getfield 136, 3) := by decide +kernel
theorem dX8_passesSign_29 : decode cX8_passesSign 29 = .ok (.iconst 1, 1) := by decide +kernel
theorem dX8_passesSign_30 : decode cX8_passesSign 30 = .ok (.iadd, 1) := by decide +kernel
theorem dX8_passesSign_31 : decode cX8_passesSign 31 = .ok (.putfield 136, 3) := by decide +kernel
theorem dX8_passesSign_34 : decode cX8_passesSign 34 = .ok (.return_, 1) := by decide +kernel
theorem dX8_number_0 : decode cX8_number 0 = .ok (.iconst 0, 1) := by decide +kernel
theorem dX8_number_1 : decode cX8_number 1 = .ok (.istore_n 1, 1) := by decide +kernel
theorem dX8_number_2 : decode cX8_number 2 = .ok (.iconst 0, 1) := by decide +kernel
theorem dX8_number_3 : decode cX8_number 3 = .ok (.istore_n 2, 1) := by decide +kernel
theorem dX8_number_4 : decode cX8_number 4 = .ok (.iload_n 2, 1) := by decide +kernel
theorem dX8_number_5 : decode cX8_number 5 = .ok (.iconst 4, 1) := by decide +kernel
theorem dX8_number_6 : decode cX8_number 6 = .ok (.if_icmp .ge 50, 3) := by decide +kernel
theorem dX8_number_9 : decode cX8_number 9 = .ok (.aload_n 0, 1) := by decide +kernel
theorem dX8_number_10 : decode cX8_number 10 = .ok (.invokevirtual 143, 3) := by decide +kernel
theorem dX8_number_13 : decode cX8_number 13 = .ok (.bipush 48, 2) := by decide +kernel
theorem dX8_number_15 : decode cX8_number 15 = .ok (.if_icmp .lt 41, 3) := by decide +kernel
theorem dX8_number_18 : decode cX8_number 18 = .ok (.aload_n 0, 1) := by decide +kernel
theorem dX8_number_19 : decode cX8_number 19 = .ok (.invokevirtual 143, 3) := by decide +kernel
theorem dX8_number_22 : decode cX8_number 22 = .ok (.bipush 57, 2) := by decide +kernel
theorem dX8_number_24 : decode cX8_number 24 = .ok (.if_icmp .gt 32, 3) := by decide +kernel
theorem dX8_number_27 : decode cX8_number 27 = .ok (.bipush 10, 2) := by decide +kernel
theorem dX8_number_29 : decode cX8_number 29 = .ok (.iload_n 1, 1) := by decide +kernel
theorem dX8_number_30 : decode cX8_number 30 = .ok (.imul, 1) := by decide +kernel
theorem dX8_number_31 : decode cX8_number 31 = .ok (.aload_n 0, 1) := by decide +kernel
theorem dX8_number_32 : decode cX8_number 32 = .ok (.invokevirtual 143, 3) := by decide +kernel
theorem dX8_number_35 : decode cX8_number 35 = .ok (.iadd, 1) := by decide +kernel
theorem dX8_number_36 : decode cX8_number 36 = .ok (.bipush 48, 2) := by decide +kernel
theorem dX8_number_38 : decode cX8_number 38 = .ok (.isub, 1) := by decide +kernel
theorem dX8_number_39 : decode cX8_number 39 = .ok (.istore_n 1, 1) := by decide +kernel
theorem dX8_number_40 : decode cX8_number 40 = .ok (.aload_n 0, 1) := by decide +kernel
theorem dX8_number_41 : decode cX8_number 41 = .ok (.dup, 1) := by decide +kernel
theorem dX8_number_42 : decode cX8_number 42 = .ok (.getfield 136, 3) := by decide +kernel
theorem dX8_number_45 : decode cX8_number 45 = .ok (.iconst 1, 1) := by decide +kernel
theorem dX8_number_46 : decode cX8_number 46 = .ok (.iadd, 1) := by decide +kernel
theorem dX8_number_47 : decode cX8_number 47 = .ok (.putfield 136, 3) := by decide +kernel
theorem dX8_number_50 : decode cX8_number 50 = .ok (.iinc 2 1, 3) := by decide +kernel
theorem dX8_number_53 : decode cX8_number 53 = .ok (.goto (-49), 3) := by decide +kernel
theorem dX8_number_56 : decode cX8_number 56 = .ok (.aload_n 0, 1) := by decide +kernel
theorem dX8_number_57 : decode cX8_number 57 = .ok (.aload_n 0, 1) := by decide +kernel
theorem dX8_number_58 : decode cX8_number 58 = .ok (.getfield 139, 3) := by decide +kernel
theorem dX8_number_61 : decode cX8_number 61 = .ok (.ifCond .eq 11, 3) := by decide +kernel
theorem dX8_number_64 : decode cX8_number 64 = .ok (.iload_n 2, 1) := by decide +kernel
theorem dX8_number_65 : decode cX8_number 65 = .ok (.ifCond .le 7, 3) := by decide +kernel
theorem dX8_number_68 : decode cX8_number 68 = .ok (.iconst 1, 1) := by decide +kernel
theorem dX8_number_69 : decode cX8_number 69 = .ok (.goto 4, 3) := by decide +kernel
theorem dX8_number_72 : decode cX8_number 72 = .ok (.iconst 0, 1) := by decide +kernel
theorem dX8_number_73 : decode cX8_number 73 = .ok (.putfield 139, 3) := by decide +kernel
theorem dX8_number_76 : decode cX8_number 76 = .ok (.iload_n 1, 1) := by decide +kernel
theorem dX8_number_77 : decode cX8_number 77 = .ok (.ireturn, 1) := by decide +kernel
theorem dX8_order_0 : decode cX8_order 0 = .ok (.aload_n 0, 1) := by decide +kernel
theorem dX8_order_1 : decode cX8_order 1 = .ok (.invokevirtual 143, 3) := by decide +kernel
theorem dX8_order_4 : decode cX8_order 4 = .ok (.istore_n 1, 1) := by decide +kernel
theorem dX8_order_5 : decode cX8_order 5 = .ok (.aload_n 0, 1) := by decide +kernel
theorem dX8_order_6 : decode cX8_order 6 = .ok (.iconst 1, 1) := by decide +kernel
theorem dX8_order_7 : decode cX8_order 7 = .ok (.putfield 139, 3) := by decide +kernel
theorem dX8_order_10 : decode cX8_order 10 = .ok (.aload_n 0, 1) := by decide +kernel
theorem dX8_order_11 : decode cX8_order 11 = .ok (.dup, 1) := by decide +kernel
theorem dX8_order_12 : decode cX8_order 12 = .ok (.getfield 136, 3) := by decide +kernel
theorem dX8_order_15 : decode cX8_order 15 = .ok (.iconst 1, 1) := by decide +kernel
theorem dX8_order_16 : decode cX8_order 16 = .ok (.iadd, 1) := by decide +kernel
theorem dX8_order_17 : decode cX8_order 17 = .ok (.putfield 136, 3) := by decide +kernel
theorem dX8_order_20 : decode cX8_order 20 = .ok (.aload_n 0, 1) := by decide +kernel
theorem dX8_order_21 : decode cX8_order 21 = .ok (.invokevirtual 146, 3) := by decide +kernel
theorem dX8_order_24 : decode cX8_order 24 = .ok (.istore_n 2, 1) := by decide +kernel
theorem dX8_order_25 : decode cX8_order 25 = .ok (.iconst 0, 1) := by decide +kernel
theorem dX8_order_26 : decode cX8_order 26 = .ok (.istore_n 3, 1) := by decide +kernel
theorem dX8_order_27 : decode cX8_order 27 = .ok (.iconst 0, 1) := by decide +kernel
theorem dX8_order_28 : decode cX8_order 28 = .ok (.istore 4, 2) := by decide +kernel
theorem dX8_order_30 : decode cX8_order 30 = .ok (.iconst 0, 1) := by decide +kernel
theorem dX8_order_31 : decode cX8_order 31 = .ok (.istore 5, 2) := by decide +kernel
theorem dX8_order_33 : decode cX8_order 33 = .ok (.iload_n 1, 1) := by decide +kernel
theorem dX8_order_34 : decode cX8_order 34 = .ok (.bipush 117, 2) := by decide +kernel
theorem dX8_order_36 : decode cX8_order 36 = .ok (.if_icmp .eq 15, 3) := by decide +kernel
theorem dX8_order_39 : decode cX8_order 39 = .ok (.iload_n 1, 1) := by decide +kernel
theorem dX8_order_40 : decode cX8_order 40 = .ok (.bipush 114, 2) := by decide +kernel
theorem dX8_order_42 : decode cX8_order 42 = .ok (.if_icmp .eq 9, 3) := by decide +kernel
theorem dX8_order_45 : decode cX8_order 45 = .ok (.iload_n 1, 1) := by decide +kernel
theorem dX8_order_46 : decode cX8_order 46 = .ok (.bipush 98, 2) := by decide +kernel
theorem dX8_order_48 : decode cX8_order 48 = .ok (.if_icmp .ne 26, 3) := by decide +kernel
theorem dX8_order_51 : decode cX8_order 51 = .ok (.aload_n 0, 1) := by decide +kernel
theorem dX8_order_52 : decode cX8_order 52 = .ok (.bipush 44, 2) := by decide +kernel
theorem dX8_order_54 : decode cX8_order 54 = .ok (.invokevirtual 149, 3) := by decide +kernel
theorem dX8_order_57 : decode cX8_order 57 = .ok (.aload_n 0, 1) := by decide +kernel
theorem dX8_order_58 : decode cX8_order 58 = .ok (.invokevirtual 146, 3) := by decide +kernel
theorem dX8_order_61 : decode cX8_order 61 = .ok (.istore_n 3, 1) := by decide +kernel
theorem dX8_order_62 : decode cX8_order 62 = .ok (.aload_n 0, 1) := by decide +kernel
theorem dX8_order_63 : decode cX8_order 63 = .ok (.bipush 44, 2) := by decide +kernel
theorem dX8_order_65 : decode cX8_order 65 = .ok (.invokevirtual 149, 3) := by decide +kernel
theorem dX8_order_68 : decode cX8_order 68 = .ok (.aload_n 0, 1) := by decide +kernel
theorem dX8_order_69 : decode cX8_order 69 = .ok (.invokevirtual 146, 3) := by decide +kernel
theorem dX8_order_72 : decode cX8_order 72 = .ok (.istore 4, 2) := by decide +kernel
theorem dX8_order_74 : decode cX8_order 74 = .ok (.iload_n 1, 1) := by decide +kernel
theorem dX8_order_75 : decode cX8_order 75 = .ok (.bipush 98, 2) := by decide +kernel
theorem dX8_order_77 : decode cX8_order 77 = .ok (.if_icmp .ne 15, 3) := by decide +kernel
theorem dX8_order_80 : decode cX8_order 80 = .ok (.aload_n 0, 1) := by decide +kernel
theorem dX8_order_81 : decode cX8_order 81 = .ok (.bipush 44, 2) := by decide +kernel
theorem dX8_order_83 : decode cX8_order 83 = .ok (.invokevirtual 149, 3) := by decide +kernel
theorem dX8_order_86 : decode cX8_order 86 = .ok (.aload_n 0, 1) := by decide +kernel
theorem dX8_order_87 : decode cX8_order 87 = .ok (.invokevirtual 146, 3) := by decide +kernel
theorem dX8_order_90 : decode cX8_order 90 = .ok (.istore 5, 2) := by decide +kernel
theorem dX8_order_92 : decode cX8_order 92 = .ok (.aload_n 0, 1) := by decide +kernel
theorem dX8_order_93 : decode cX8_order 93 = .ok (.bipush 59, 2) := by decide +kernel
theorem dX8_order_95 : decode cX8_order 95 = .ok (.invokevirtual 149, 3) := by decide +kernel
theorem dX8_order_98 : decode cX8_order 98 = .ok (.aload_n 0, 1) := by decide +kernel
theorem dX8_order_99 : decode cX8_order 99 = .ok (.getfield 139, 3) := by decide +kernel
theorem dX8_order_102 : decode cX8_order 102 = .ok (.ifCond .ne 5, 3) := by decide +kernel
theorem dX8_order_105 : decode cX8_order 105 = .ok (.iconst 0, 1) := by decide +kernel
theorem dX8_order_106 : decode cX8_order 106 = .ok (.ireturn, 1) := by decide +kernel
theorem dX8_order_107 : decode cX8_order 107 = .ok (.iload_n 1, 1) := by decide +kernel
theorem dX8_order_108 : decode cX8_order 108 = .ok (.tableswitch 169 98 122 #[140, 157, 163, 169, 169, 169, 169, 169, 169, 169, 169, 169, 169, 169, 169, 169, 131, 169, 151, 122, 169, 169, 169, 169, 116], 116) := by decide +kernel
theorem dX8_order_224 : decode cX8_order 224 = .ok (.aload_n 0, 1) := by decide +kernel
theorem dX8_order_225 : decode cX8_order 225 = .ok (.iload_n 2, 1) := by decide +kernel
theorem dX8_order_226 : decode cX8_order 226 = .ok (.invokevirtual 120, 3) := by decide +kernel
theorem dX8_order_229 : decode cX8_order 229 = .ok (.ireturn, 1) := by decide +kernel
theorem dX8_order_230 : decode cX8_order 230 = .ok (.aload_n 0, 1) := by decide +kernel
theorem dX8_order_231 : decode cX8_order 231 = .ok (.iload_n 2, 1) := by decide +kernel
theorem dX8_order_232 : decode cX8_order 232 = .ok (.iload_n 3, 1) := by decide +kernel
theorem dX8_order_233 : decode cX8_order 233 = .ok (.iload 4, 2) := by decide +kernel
theorem dX8_order_235 : decode cX8_order 235 = .ok (.invokevirtual 97, 3) := by decide +kernel
theorem dX8_order_238 : decode cX8_order 238 = .ok (.ireturn, 1) := by decide +kernel
theorem dX8_order_239 : decode cX8_order 239 = .ok (.aload_n 0, 1) := by decide +kernel
theorem dX8_order_240 : decode cX8_order 240 = .ok (.iload_n 2, 1) := by decide +kernel
theorem dX8_order_241 : decode cX8_order 241 = .ok (.iload_n 3, 1) := by decide +kernel
theorem dX8_order_242 : decode cX8_order 242 = .ok (.iload 4, 2) := by decide +kernel
theorem dX8_order_244 : decode cX8_order 244 = .ok (.invokevirtual 100, 3) := by decide +kernel
theorem dX8_order_247 : decode cX8_order 247 = .ok (.ireturn, 1) := by decide +kernel
theorem dX8_order_248 : decode cX8_order 248 = .ok (.aload_n 0, 1) := by decide +kernel
theorem dX8_order_249 : decode cX8_order 249 = .ok (.iload_n 2, 1) := by decide +kernel
theorem dX8_order_250 : decode cX8_order 250 = .ok (.iload_n 3, 1) := by decide +kernel
theorem dX8_order_251 : decode cX8_order 251 = .ok (.iload 4, 2) := by decide +kernel
theorem dX8_order_253 : decode cX8_order 253 = .ok (.iload 5, 2) := by decide +kernel
theorem dX8_order_255 : decode cX8_order 255 = .ok (.invokevirtual 103, 3) := by decide +kernel
theorem dX8_order_258 : decode cX8_order 258 = .ok (.ireturn, 1) := by decide +kernel
theorem dX8_order_259 : decode cX8_order 259 = .ok (.aload_n 0, 1) := by decide +kernel
theorem dX8_order_260 : decode cX8_order 260 = .ok (.iload_n 2, 1) := by decide +kernel
theorem dX8_order_261 : decode cX8_order 261 = .ok (.invokevirtual 107, 3) := by decide +kernel
theorem dX8_order_264 : decode cX8_order 264 = .ok (.ireturn, 1) := by decide +kernel
theorem dX8_order_265 : decode cX8_order 265 = .ok (.aload_n 0, 1) := by decide +kernel
theorem dX8_order_266 : decode cX8_order 266 = .ok (.iload_n 2, 1) := by decide +kernel
theorem dX8_order_267 : decode cX8_order 267 = .ok (.invokevirtual 114, 3) := by decide +kernel
theorem dX8_order_270 : decode cX8_order 270 = .ok (.ireturn, 1) := by decide +kernel
theorem dX8_order_271 : decode cX8_order 271 = .ok (.aload_n 0, 1) := by decide +kernel
theorem dX8_order_272 : decode cX8_order 272 = .ok (.iload_n 2, 1) := by decide +kernel
theorem dX8_order_273 : decode cX8_order 273 = .ok (.invokevirtual 126, 3) := by decide +kernel
theorem dX8_order_276 : decode cX8_order 276 = .ok (.ireturn, 1) := by decide +kernel
theorem dX8_order_277 : decode cX8_order 277 = .ok (.aload_n 0, 1) := by decide +kernel
theorem dX8_order_278 : decode cX8_order 278 = .ok (.iconst 0, 1) := by decide +kernel
theorem dX8_order_279 : decode cX8_order 279 = .ok (.putfield 139, 3) := by decide +kernel
theorem dX8_order_282 : decode cX8_order 282 = .ok (.iconst 0, 1) := by decide +kernel
theorem dX8_order_283 : decode cX8_order 283 = .ok (.ireturn, 1) := by decide +kernel
theorem dX8_tries_0 : decode cX8_tries 0 = .ok (.aload_n 0, 1) := by decide +kernel
theorem dX8_tries_1 : decode cX8_tries 1 = .ok (.iconst 0, 1) := by decide +kernel
theorem dX8_tries_2 : decode cX8_tries 2 = .ok (.putfield 136, 3) := by decide +kernel
theorem dX8_tries_5 : decode cX8_tries 5 = .ok (.aload_n 0, 1) := by decide +kernel
theorem dX8_tries_6 : decode cX8_tries 6 = .ok (.iconst 0, 1) := by decide +kernel
theorem dX8_tries_7 : decode cX8_tries 7 = .ok (.putfield 152, 3) := by decide +kernel
theorem dX8_tries_10 : decode cX8_tries 10 = .ok (.aload_n 0, 1) := by decide +kernel
theorem dX8_tries_11 : decode cX8_tries 11 = .ok (.iconst 0, 1) := by decide +kernel
theorem dX8_tries_12 : decode cX8_tries 12 = .ok (.putfield 155, 3) := by decide +kernel
theorem dX8_tries_15 : decode cX8_tries 15 = .ok (.aload_n 0, 1) := by decide +kernel
theorem dX8_tries_16 : decode cX8_tries 16 = .ok (.getfield 136, 3) := by decide +kernel
theorem dX8_tries_19 : decode cX8_tries 19 = .ok (.aload_n 0, 1) := by decide +kernel
theorem dX8_tries_20 : decode cX8_tries 20 = .ok (.getfield 133, 3) := by decide +kernel
theorem dX8_tries_23 : decode cX8_tries 23 = .ok (.if_icmp .ge 66, 3) := by decide +kernel
theorem dX8_tries_26 : decode cX8_tries 26 = .ok (.aload_n 0, 1) := by decide +kernel
theorem dX8_tries_27 : decode cX8_tries 27 = .ok (.getfield 155, 3) := by decide +kernel
theorem dX8_tries_30 : decode cX8_tries 30 = .ok (.ifCond .ne 59, 3) := by decide +kernel
theorem dX8_tries_33 : decode cX8_tries 33 = .ok (.aload_n 0, 1) := by decide +kernel
theorem dX8_tries_34 : decode cX8_tries 34 = .ok (.aload_n 0, 1) := by decide +kernel
theorem dX8_tries_35 : decode cX8_tries 35 = .ok (.getfield 136, 3) := by decide +kernel
theorem dX8_tries_38 : decode cX8_tries 38 = .ok (.putfield 158, 3) := by decide +kernel
theorem dX8_tries_41 : decode cX8_tries 41 = .ok (.aload_n 0, 1) := by decide +kernel
theorem dX8_tries_42 : decode cX8_tries 42 = .ok (.aload_n 0, 1) := by decide +kernel
theorem dX8_tries_43 : decode cX8_tries 43 = .ok (.invokevirtual 161, 3) := by decide +kernel
theorem dX8_tries_46 : decode cX8_tries 46 = .ok (.putfield 164, 3) := by decide +kernel
theorem dX8_tries_49 : decode cX8_tries 49 = .ok (.aload_n 0, 1) := by decide +kernel
theorem dX8_tries_50 : decode cX8_tries 50 = .ok (.aload_n 0, 1) := by decide +kernel
theorem dX8_tries_51 : decode cX8_tries 51 = .ok (.getfield 139, 3) := by decide +kernel
theorem dX8_tries_54 : decode cX8_tries 54 = .ok (.ifCond .ne 7, 3) := by decide +kernel
theorem dX8_tries_57 : decode cX8_tries 57 = .ok (.iconst 1, 1) := by decide +kernel
theorem dX8_tries_58 : decode cX8_tries 58 = .ok (.goto 15, 3) := by decide +kernel
theorem dX8_tries_61 : decode cX8_tries 61 = .ok (.aload_n 0, 1) := by decide +kernel
theorem dX8_tries_62 : decode cX8_tries 62 = .ok (.getfield 164, 3) := by decide +kernel
theorem dX8_tries_65 : decode cX8_tries 65 = .ok (.ifCond .ge 7, 3) := by decide +kernel
theorem dX8_tries_68 : decode cX8_tries 68 = .ok (.iconst 2, 1) := by decide +kernel
theorem dX8_tries_69 : decode cX8_tries 69 = .ok (.goto 4, 3) := by decide +kernel
theorem dX8_tries_72 : decode cX8_tries 72 = .ok (.iconst 0, 1) := by decide +kernel
theorem dX8_tries_73 : decode cX8_tries 73 = .ok (.putfield 155, 3) := by decide +kernel
theorem dX8_tries_76 : decode cX8_tries 76 = .ok (.aload_n 0, 1) := by decide +kernel
theorem dX8_tries_77 : decode cX8_tries 77 = .ok (.dup, 1) := by decide +kernel
theorem dX8_tries_78 : decode cX8_tries 78 = .ok (.getfield 152, 3) := by decide +kernel
theorem dX8_tries_81 : decode cX8_tries 81 = .ok (.iconst 1, 1) := by decide +kernel
theorem dX8_tries_82 : decode cX8_tries 82 = .ok (.iadd, 1) := by decide +kernel
theorem dX8_tries_83 : decode cX8_tries 83 = .ok (.putfield 152, 3) := by decide +kernel
theorem dX8_tries_86 : decode cX8_tries 86 = .ok (.goto (-71), 3) := by decide +kernel
theorem dX8_tries_89 : decode cX8_tries 89 = .ok (.return_, 1) := by decide +kernel
theorem dX8_fault_0 : decode cX8_fault 0 = .ok (.iload_n 1, 1) := by decide +kernel
theorem dX8_fault_1 : decode cX8_fault 1 = .ok (.iconst 0, 1) := by decide +kernel
theorem dX8_fault_2 : decode cX8_fault 2 = .ok (.iconst 2, 1) := by decide +kernel
theorem dX8_fault_3 : decode cX8_fault 3 = .ok (.invokestatic 22, 3) := by decide +kernel
theorem dX8_fault_6 : decode cX8_fault 6 = .ok (.ifCond .ne 5, 3) := by decide +kernel
theorem dX8_fault_9 : decode cX8_fault 9 = .ok (.iconst (-1), 1) := by decide +kernel
theorem dX8_fault_10 : decode cX8_fault 10 = .ok (.ireturn, 1) := by decide +kernel
theorem dX8_fault_11 : decode cX8_fault 11 = .ok (.aload_n 0, 1) := by decide +kernel
theorem dX8_fault_12 : decode cX8_fault 12 = .ok (.invokevirtual 54, 3) := by decide +kernel
theorem dX8_fault_15 : decode cX8_fault 15 = .ok (.aload_n 0, 1) := by decide +kernel
theorem dX8_fault_16 : decode cX8_fault 16 = .ok (.invokevirtual 167, 3) := by decide +kernel
theorem dX8_fault_19 : decode cX8_fault 19 = .ok (.aload_n 0, 1) := by decide +kernel
theorem dX8_fault_20 : decode cX8_fault 20 = .ok (.invokevirtual 170, 3) := by decide +kernel
theorem dX8_fault_23 : decode cX8_fault 23 = .ok (.aload_n 0, 1) := by decide +kernel
theorem dX8_fault_24 : decode cX8_fault 24 = .ok (.getfield 155, 3) := by decide +kernel
theorem dX8_fault_27 : decode cX8_fault 27 = .ok (.ifCond .eq 16, 3) := by decide +kernel
theorem dX8_fault_30 : decode cX8_fault 30 = .ok (.iload_n 1, 1) := by decide +kernel
theorem dX8_fault_31 : decode cX8_fault 31 = .ok (.iconst 2, 1) := by decide +kernel
theorem dX8_fault_32 : decode cX8_fault 32 = .ok (.if_icmp .ne 14, 3) := by decide +kernel
theorem dX8_fault_35 : decode cX8_fault 35 = .ok (.aload_n 0, 1) := by decide +kernel
theorem dX8_fault_36 : decode cX8_fault 36 = .ok (.getfield 155, 3) := by decide +kernel
theorem dX8_fault_39 : decode cX8_fault 39 = .ok (.iconst 1, 1) := by decide +kernel
theorem dX8_fault_40 : decode cX8_fault 40 = .ok (.if_icmp .ne 6, 3) := by decide +kernel
theorem dX8_fault_43 : decode cX8_fault 43 = .ok (.bipush (-4), 2) := by decide +kernel
theorem dX8_fault_45 : decode cX8_fault 45 = .ok (.ireturn, 1) := by decide +kernel
theorem dX8_fault_46 : decode cX8_fault 46 = .ok (.iload_n 1, 1) := by decide +kernel
theorem dX8_fault_47 : decode cX8_fault 47 = .ok (.ifCond .ne 10, 3) := by decide +kernel
theorem dX8_fault_50 : decode cX8_fault 50 = .ok (.aload_n 0, 1) := by decide +kernel
theorem dX8_fault_51 : decode cX8_fault 51 = .ok (.getfield 158, 3) := by decide +kernel
theorem dX8_fault_54 : decode cX8_fault 54 = .ok (.goto 19, 3) := by decide +kernel
theorem dX8_fault_57 : decode cX8_fault 57 = .ok (.iload_n 1, 1) := by decide +kernel
theorem dX8_fault_58 : decode cX8_fault 58 = .ok (.iconst 1, 1) := by decide +kernel
theorem dX8_fault_59 : decode cX8_fault 59 = .ok (.if_icmp .ne 10, 3) := by decide +kernel
theorem dX8_fault_62 : decode cX8_fault 62 = .ok (.aload_n 0, 1) := by decide +kernel
theorem dX8_fault_63 : decode cX8_fault 63 = .ok (.getfield 155, 3) := by decide +kernel
theorem dX8_fault_66 : decode cX8_fault 66 = .ok (.goto 7, 3) := by decide +kernel
theorem dX8_fault_69 : decode cX8_fault 69 = .ok (.aload_n 0, 1) := by decide +kernel
theorem dX8_fault_70 : decode cX8_fault 70 = .ok (.getfield 164, 3) := by decide +kernel
theorem dX8_fault_73 : decode cX8_fault 73 = .ok (.ireturn, 1) := by decide +kernel
theorem dX8_play_0 : decode cX8_play 0 = .ok (.aload_n 0, 1) := by decide +kernel
theorem dX8_play_1 : decode cX8_play 1 = .ok (.invokevirtual 54, 3) := by decide +kernel
theorem dX8_play_4 : decode cX8_play 4 = .ok (.aload_n 0, 1) := by decide +kernel
theorem dX8_play_5 : decode cX8_play 5 = .ok (.invokevirtual 167, 3) := by decide +kernel
theorem dX8_play_8 : decode cX8_play 8 = .ok (.aload_n 0, 1) := by decide +kernel
theorem dX8_play_9 : decode cX8_play 9 = .ok (.getfield 155, 3) := by decide +kernel
theorem dX8_play_12 : decode cX8_play 12 = .ok (.ifCond .eq 10, 3) := by decide +kernel
theorem dX8_play_15 : decode cX8_play 15 = .ok (.aload_n 0, 1) := by decide +kernel
theorem dX8_play_16 : decode cX8_play 16 = .ok (.invokevirtual 170, 3) := by decide +kernel
theorem dX8_play_19 : decode cX8_play 19 = .ok (.bipush (-2), 2) := by decide +kernel
theorem dX8_play_21 : decode cX8_play 21 = .ok (.ireturn, 1) := by decide +kernel
theorem dX8_play_22 : decode cX8_play 22 = .ok (.aload_n 0, 1) := by decide +kernel
theorem dX8_play_23 : decode cX8_play 23 = .ok (.aload_n 0, 1) := by decide +kernel
theorem dX8_play_24 : decode cX8_play 24 = .ok (.getfield 152, 3) := by decide +kernel
theorem dX8_play_27 : decode cX8_play 27 = .ok (.invokevirtual 61, 3) := by decide +kernel
theorem dX8_play_30 : decode cX8_play 30 = .ok (.ireturn, 1) := by decide +kernel
