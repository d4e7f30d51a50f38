theorem dX0_init_0 : decode cX0_init 0 = .ok (.aload_n 0, 1) := by decide +kernel
theorem dX0_init_1 : decode cX0_init 1 = .ok (.invokespecial 3, 3) := by decide +kernel
theorem dX0_init_4 : decode cX0_init 4 = .ok (.aload_n 0, 1) := by decide +kernel
theorem dX0_init_5 : decode cX0_init 5 = .ok (.iconst 0, 1) := by decide +kernel
theorem dX0_init_6 : decode cX0_init 6 = .ok (.putfield 9, 3) := by decide +kernel
theorem dX0_init_9 : decode cX0_init 9 = .ok (.aload_n 0, 1) := by decide +kernel
theorem dX0_init_10 : decode cX0_init 10 = .ok (.lconst 0, 1) := by decide +kernel
theorem dX0_init_11 : decode cX0_init 11 = .ok (.putfield 15, 3) := by decide +kernel
theorem dX0_init_14 : decode cX0_init 14 = .ok (.aload_n 0, 1) := by decide +kernel
theorem dX0_init_15 : decode cX0_init 15 = .ok (.bipush 60, 2) := by decide +kernel
theorem dX0_init_17 : decode cX0_init 17 = .ok (.newarray .int, 2) := by decide +kernel
theorem dX0_init_19 : decode cX0_init 19 = .ok (.putfield 19, 3) := by decide +kernel
theorem dX0_init_22 : decode cX0_init 22 = .ok (.aload_n 0, 1) := by decide +kernel
theorem dX0_init_23 : decode cX0_init 23 = .ok (.bipush 60, 2) := by decide +kernel
theorem dX0_init_25 : decode cX0_init 25 = .ok (.newarray .int, 2) := by decide +kernel
theorem dX0_init_27 : decode cX0_init 27 = .ok (.putfield 23, 3) := by decide +kernel
theorem dX0_init_30 : decode cX0_init 30 = .ok (.aload_n 0, 1) := by decide +kernel
theorem dX0_init_31 : decode cX0_init 31 = .ok (.bipush 60, 2) := by decide +kernel
theorem dX0_init_33 : decode cX0_init 33 = .ok (.newarray .int, 2) := by decide +kernel
theorem dX0_init_35 : decode cX0_init 35 = .ok (.putfield 26, 3) := by decide +kernel
theorem dX0_init_38 : decode cX0_init 38 = .ok (.aload_n 0, 1) := by decide +kernel
theorem dX0_init_39 : decode cX0_init 39 = .ok (.bipush 60, 2) := by decide +kernel
theorem dX0_init_41 : decode cX0_init 41 = .ok (.newarray .int, 2) := by decide +kernel
theorem dX0_init_43 : decode cX0_init 43 = .ok (.putfield 29, 3) := by decide +kernel
theorem dX0_init_46 : decode cX0_init 46 = .ok (.aload_n 0, 1) := by decide +kernel
theorem dX0_init_47 : decode cX0_init 47 = .ok (.bipush 60, 2) := by decide +kernel
theorem dX0_init_49 : decode cX0_init 49 = .ok (.newarray .int, 2) := by decide +kernel
theorem dX0_init_51 : decode cX0_init 51 = .ok (.putfield 32, 3) := by decide +kernel
theorem dX0_init_54 : decode cX0_init 54 = .ok (.return_, 1) := by decide +kernel
theorem dX0_become_0 : decode cX0_become 0 = .ok (.aload_n 0, 1) := by decide +kernel
theorem dX0_become_1 : decode cX0_become 1 = .ok (.aload_n 1, 1) := by decide +kernel
theorem dX0_become_2 : decode cX0_become 2 = .ok (.getfield 9, 3) := by decide +kernel
theorem dX0_become_5 : decode cX0_become 5 = .ok (.putfield 9, 3) := by decide +kernel
theorem dX0_become_8 : decode cX0_become 8 = .ok (.aload_n 0, 1) := by decide +kernel
theorem dX0_become_9 : decode cX0_become 9 = .ok (.aload_n 1, 1) := by decide +kernel
theorem dX0_become_10 : decode cX0_become 10 = .ok (.getfield 15, 3) := by decide +kernel
theorem dX0_become_13 : decode cX0_become 13 = .ok (.putfield 15, 3) := by decide +kernel
theorem dX0_become_16 : decode cX0_become 16 = .ok (.aload_n 1, 1) := by decide +kernel
theorem dX0_become_17 : decode cX0_become 17 = .ok (.getfield 19, 3) := by decide +kernel
theorem dX0_become_20 : decode cX0_become 20 = .ok (.iconst 0, 1) := by decide +kernel
theorem dX0_become_21 : decode cX0_become 21 = .ok (.aload_n 0, 1) := by decide +kernel
theorem dX0_become_22 : decode cX0_become 22 = .ok (.getfield 19, 3) := by decide +kernel
theorem dX0_become_25 : decode cX0_become 25 = .ok (.iconst 0, 1) := by decide +kernel
theorem dX0_become_26 : decode cX0_become 26 = .ok (.bipush 60, 2) := by decide +kernel
theorem dX0_become_28 : decode cX0_become 28 = .ok (.invokestatic 35, 3) := by decide +kernel
theorem dX0_become_31 : decode cX0_become 31 = .ok (.aload_n 1, 1) := by decide +kernel
theorem dX0_become_32 : decode cX0_become 32 = .ok (.getfield 23, 3) := by decide +kernel
theorem dX0_become_35 : decode cX0_become 35 = .ok (.iconst 0, 1) := by decide +kernel
theorem dX0_become_36 : decode cX0_become 36 = .ok (.aload_n 0, 1) := by decide +kernel
theorem dX0_become_37 : decode cX0_become 37 = .ok (.getfield 23, 3) := by decide +kernel
theorem dX0_become_40 : decode cX0_become 40 = .ok (.iconst 0, 1) := by decide +kernel
theorem dX0_become_41 : decode cX0_become 41 = .ok (.bipush 60, 2) := by decide +kernel
theorem dX0_become_43 : decode cX0_become 43 = .ok (.invokestatic 35, 3) := by decide +kernel
theorem dX0_become_46 : decode cX0_become 46 = .ok (.aload_n 1, 1) := by decide +kernel
theorem dX0_become_47 : decode cX0_become 47 = .ok (.getfield 26, 3) := by decide +kernel
theorem dX0_become_50 : decode cX0_become 50 = .ok (.iconst 0, 1) := by decide +kernel
theorem dX0_become_51 : decode cX0_become 51 = .ok (.aload_n 0, 1) := by decide +kernel
theorem dX0_become_52 : decode cX0_become 52 = .ok (.getfield 26, 3) := by decide +kernel
theorem dX0_become_55 : decode cX0_become 55 = .ok (.iconst 0, 1) := by decide +kernel
theorem dX0_become_56 : decode cX0_become 56 = .ok (.bipush 60, 2) := by decide +kernel
theorem dX0_become_58 : decode cX0_become 58 = .ok (.invokestatic 35, 3) := by decide +kernel
theorem dX0_become_61 : decode cX0_become 61 = .ok (.aload_n 1, 1) := by decide +kernel
theorem dX0_become_62 : decode cX0_become 62 = .ok (.getfield 29, 3) := by decide +kernel
theorem dX0_become_65 : decode cX0_become 65 = .ok (.iconst 0, 1) := by decide +kernel
theorem dX0_become_66 : decode cX0_become 66 = .ok (.aload_n 0, 1) := by decide +kernel
theorem dX0_become_67 : decode cX0_become 67 = .ok (.getfield 29, 3) := by decide +kernel
theorem dX0_become_70 : decode cX0_become 70 = .ok (.iconst 0, 1) := by decide +kernel
theorem dX0_become_71 : decode cX0_become 71 = .ok (.bipush 60, 2) := by decide +kernel
theorem dX0_become_73 : decode cX0_become 73 = .ok (.invokestatic 35, 3) := by decide +kernel
theorem dX0_become_76 : decode cX0_become 76 = .ok (.aload_n 1, 1) := by decide +kernel
theorem dX0_become_77 : decode cX0_become 77 = .ok (.getfield 32, 3) := by decide +kernel
theorem dX0_become_80 : decode cX0_become 80 = .ok (.iconst 0, 1) := by decide +kernel
theorem dX0_become_81 : decode cX0_become 81 = .ok (.aload_n 0, 1) := by decide +kernel
theorem dX0_become_82 : decode cX0_become 82 = .ok (.getfield 32, 3) := by decide +kernel
theorem dX0_become_85 : decode cX0_become 85 = .ok (.iconst 0, 1) := by decide +kernel
theorem dX0_become_86 : decode cX0_become 86 = .ok (.bipush 60, 2) := by decide +kernel
theorem dX0_become_88 : decode cX0_become 88 = .ok (.invokestatic 35, 3) := by decide +kernel
theorem dX0_become_91 : decode cX0_become 91 = .ok (.return_, 1) := by decide +kernel
theorem dX0_add_0 : decode cX0_add 0 = .ok (.aload_n 0, 1) := by decide +kernel
theorem dX0_add_1 : decode cX0_add 1 = .ok (.getfield 9, 3) := by decide +kernel
theorem dX0_add_4 : decode cX0_add 4 = .ok (.bipush 60, 2) := by decide +kernel
theorem dX0_add_6 : decode cX0_add 6 = .ok (.if_icmp .lt 6, 3) := by decide +kernel
theorem dX0_add_9 : decode cX0_add 9 = .ok (.bipush (-3), 2) := by decide +kernel
theorem dX0_add_11 : decode cX0_add 11 = .ok (.ireturn, 1) := by decide +kernel
theorem dX0_add_12 : decode cX0_add 12 = .ok (.aload_n 0, 1) := by decide +kernel
theorem dX0_add_13 : decode cX0_add 13 = .ok (.getfield 9, 3) := by decide +kernel
theorem dX0_add_16 : decode cX0_add 16 = .ok (.istore 5, 2) := by decide +kernel
theorem dX0_add_18 : decode cX0_add 18 = .ok (.aload_n 0, 1) := by decide +kernel
theorem dX0_add_19 : decode cX0_add 19 = .ok (.dup, 1) := by decide +kernel
theorem dX0_add_20 : decode cX0_add 20 = .ok (.getfield 9, 3) := by decide +kernel
theorem dX0_add_23 : decode cX0_add 23 = .ok (.iconst 1, 1) := by decide +kernel
theorem dX0_add_24 : decode cX0_add 24 = .ok (.iadd, 1) := by decide +kernel
theorem dX0_add_25 : decode cX0_add 25 = .ok (.putfield 9, 3) := by decide +kernel
theorem dX0_add_28 : decode cX0_add 28 = .ok (.aload_n 0, 1) := by decide +kernel
theorem dX0_add_29 : decode cX0_add 29 = .ok (.getfield 19, 3) := by decide +kernel
theorem dX0_add_32 : decode cX0_add 32 = .ok (.iload 5, 2) := by decide +kernel
theorem dX0_add_34 : decode cX0_add 34 = .ok (.iload_n 1, 1) := by decide +kernel
theorem dX0_add_35 : decode cX0_add 35 = .ok (.iastore, 1) := by decide +kernel
theorem dX0_add_36 : decode cX0_add 36 = .ok (.aload_n 0, 1) := by decide +kernel
theorem dX0_add_37 : decode cX0_add 37 = .ok (.getfield 23, 3) := by decide +kernel
theorem dX0_add_40 : decode cX0_add 40 = .ok (.iload 5, 2) := by decide +kernel
theorem dX0_add_42 : decode cX0_add 42 = .ok (.iload_n 2, 1) := by decide +kernel
theorem dX0_add_43 : decode cX0_add 43 = .ok (.iastore, 1) := by decide +kernel
theorem dX0_add_44 : decode cX0_add 44 = .ok (.aload_n 0, 1) := by decide +kernel
theorem dX0_add_45 : decode cX0_add 45 = .ok (.getfield 26, 3) := by decide +kernel
theorem dX0_add_48 : decode cX0_add 48 = .ok (.iload 5, 2) := by decide +kernel
theorem dX0_add_50 : decode cX0_add 50 = .ok (.iload_n 2, 1) := by decide +kernel
theorem dX0_add_51 : decode cX0_add 51 = .ok (.iastore, 1) := by decide +kernel
theorem dX0_add_52 : decode cX0_add 52 = .ok (.aload_n 0, 1) := by decide +kernel
theorem dX0_add_53 : decode cX0_add 53 = .ok (.getfield 29, 3) := by decide +kernel
theorem dX0_add_56 : decode cX0_add 56 = .ok (.iload 5, 2) := by decide +kernel
theorem dX0_add_58 : decode cX0_add 58 = .ok (.iload_n 3, 1) := by decide +kernel
theorem dX0_add_59 : decode cX0_add 59 = .ok (.iastore, 1) := by decide +kernel
theorem dX0_add_60 : decode cX0_add 60 = .ok (.aload_n 0, 1) := by decide +kernel
theorem dX0_add_61 : decode cX0_add 61 = .ok (.getfield 32, 3) := by decide +kernel
theorem dX0_add_64 : decode cX0_add 64 = .ok (.iload 5, 2) := by decide +kernel
theorem dX0_add_66 : decode cX0_add 66 = .ok (.iload 4, 2) := by decide +kernel
theorem dX0_add_68 : decode cX0_add 68 = .ok (.iastore, 1) := by decide +kernel
theorem dX0_add_69 : decode cX0_add 69 = .ok (.aload_n 0, 1) := by decide +kernel
theorem dX0_add_70 : decode cX0_add 70 = .ok (.dup, 1) := by decide +kernel
theorem dX0_add_71 : decode cX0_add 71 = .ok (.getfield 15, 3) := by decide +kernel
theorem dX0_add_74 : decode cX0_add 74 = .ok (.iload_n 2, 1) := by decide +kernel
theorem dX0_add_75 : decode cX0_add 75 = .ok (.i2l, 1) := by decide +kernel
theorem dX0_add_76 : decode cX0_add 76 = .ok (.iload_n 3, 1) := by decide +kernel
theorem dX0_add_77 : decode cX0_add 77 = .ok (.i2l, 1) := by decide +kernel
theorem dX0_add_78 : decode cX0_add 78 = .ok (.lmul, 1) := by decide +kernel
theorem dX0_add_79 : decode cX0_add 79 = .ok (.ladd, 1) := by decide +kernel
theorem dX0_add_80 : decode cX0_add 80 = .ok (.putfield 15, 3) := by decide +kernel
theorem dX0_add_83 : decode cX0_add 83 = .ok (.iload 5, 2) := by decide +kernel
theorem dX0_add_85 : decode cX0_add 85 = .ok (.ireturn, 1) := by decide +kernel
theorem dX0_held_0 : decode cX0_held 0 = .ok (.aload_n 0, 1) := by decide +kernel
theorem dX0_held_1 : decode cX0_held 1 = .ok (.getfield 26, 3) := by decide +kernel
theorem dX0_held_4 : decode cX0_held 4 = .ok (.iload_n 1, 1) := by decide +kernel
theorem dX0_held_5 : decode cX0_held 5 = .ok (.iaload, 1) := by decide +kernel
theorem dX0_held_6 : decode cX0_held 6 = .ok (.i2l, 1) := by decide +kernel
theorem dX0_held_7 : decode cX0_held 7 = .ok (.aload_n 0, 1) := by decide +kernel
theorem dX0_held_8 : decode cX0_held 8 = .ok (.getfield 29, 3) := by decide +kernel
theorem dX0_held_11 : decode cX0_held 11 = .ok (.iload_n 1, 1) := by decide +kernel
theorem dX0_held_12 : decode cX0_held 12 = .ok (.iaload, 1) := by decide +kernel
theorem dX0_held_13 : decode cX0_held 13 = .ok (.i2l, 1) := by decide +kernel
theorem dX0_held_14 : decode cX0_held 14 = .ok (.lmul, 1) := by decide +kernel
theorem dX0_held_15 : decode cX0_held 15 = .ok (.lreturn, 1) := by decide +kernel
theorem dX0_heldByAll_0 : decode cX0_heldByAll 0 = .ok (.lconst 0, 1) := by decide +kernel
theorem dX0_heldByAll_1 : decode cX0_heldByAll 1 = .ok (.lstore_n 1, 1) := by decide +kernel
theorem dX0_heldByAll_2 : decode cX0_heldByAll 2 = .ok (.iconst 0, 1) := by decide +kernel
theorem dX0_heldByAll_3 : decode cX0_heldByAll 3 = .ok (.istore_n 3, 1) := by decide +kernel
theorem dX0_heldByAll_4 : decode cX0_heldByAll 4 = .ok (.iload_n 3, 1) := by decide +kernel
theorem dX0_heldByAll_5 : decode cX0_heldByAll 5 = .ok (.aload_n 0, 1) := by decide +kernel
theorem dX0_heldByAll_6 : decode cX0_heldByAll 6 = .ok (.getfield 9, 3) := by decide +kernel
theorem dX0_heldByAll_9 : decode cX0_heldByAll 9 = .ok (.if_icmp .ge 17, 3) := by decide +kernel
theorem dX0_heldByAll_12 : decode cX0_heldByAll 12 = .ok (.lload_n 1, 1) := by decide +kernel
theorem dX0_heldByAll_13 : decode cX0_heldByAll 13 = .ok (.aload_n 0, 1) := by decide +kernel
theorem dX0_heldByAll_14 : decode cX0_heldByAll 14 = .ok (.iload_n 3, 1) := by decide +kernel
theorem dX0_heldByAll_15 : decode cX0_heldByAll 15 = .ok (.invokevirtual 41, 3) := by decide +kernel
theorem dX0_heldByAll_18 : decode cX0_heldByAll 18 = .ok (.ladd, 1) := by decide +kernel
theorem dX0_heldByAll_19 : decode cX0_heldByAll 19 = .ok (.lstore_n 1, 1) := by decide +kernel
theorem dX0_heldByAll_20 : decode cX0_heldByAll 20 = .ok (.iinc 3 1, 3) := by decide +kernel
theorem dX0_heldByAll_23 : decode cX0_heldByAll 23 = .ok (.goto (-19), 3) := by decide +kernel
theorem dX0_heldByAll_26 : decode cX0_heldByAll 26 = .ok (.lload_n 1, 1) := by decide +kernel
theorem dX0_heldByAll_27 : decode cX0_heldByAll 27 = .ok (.lreturn, 1) := by decide +kernel
theorem dX0_withUnits_0 : decode cX0_withUnits 0 = .ok (.iconst 0, 1) := by decide +kernel
theorem dX0_withUnits_1 : decode cX0_withUnits 1 = .ok (.istore_n 1, 1) := by decide +kernel
theorem dX0_withUnits_2 : decode cX0_withUnits 2 = .ok (.iconst 0, 1) := by decide +kernel
theorem dX0_withUnits_3 : decode cX0_withUnits 3 = .ok (.istore_n 2, 1) := by decide +kernel
theorem dX0_withUnits_4 : decode cX0_withUnits 4 = .ok (.iload_n 2, 1) := by decide +kernel
theorem dX0_withUnits_5 : decode cX0_withUnits 5 = .ok (.aload_n 0, 1) := by decide +kernel
theorem dX0_withUnits_6 : decode cX0_withUnits 6 = .ok (.getfield 9, 3) := by decide +kernel
theorem dX0_withUnits_9 : decode cX0_withUnits 9 = .ok (.if_icmp .ge 21, 3) := by decide +kernel
theorem dX0_withUnits_12 : decode cX0_withUnits 12 = .ok (.aload_n 0, 1) := by decide +kernel
theorem dX0_withUnits_13 : decode cX0_withUnits 13 = .ok (.getfield 26, 3) := by decide +kernel
theorem dX0_withUnits_16 : decode cX0_withUnits 16 = .ok (.iload_n 2, 1) := by decide +kernel
theorem dX0_withUnits_17 : decode cX0_withUnits 17 = .ok (.iaload, 1) := by decide +kernel
theorem dX0_withUnits_18 : decode cX0_withUnits 18 = .ok (.ifCond .le 6, 3) := by decide +kernel
theorem dX0_withUnits_21 : decode cX0_withUnits 21 = .ok (.iinc 1 1, 3) := by decide +kernel
theorem dX0_withUnits_24 : decode cX0_withUnits 24 = .ok (.iinc 2 1, 3) := by decide +kernel
theorem dX0_withUnits_27 : decode cX0_withUnits 27 = .ok (.goto (-23), 3) := by decide +kernel
theorem dX0_withUnits_30 : decode cX0_withUnits 30 = .ok (.iload_n 1, 1) := by decide +kernel
theorem dX0_withUnits_31 : decode cX0_withUnits 31 = .ok (.ireturn, 1) := by decide +kernel
theorem dX0_loaded_0 : decode cX0_loaded 0 = .ok (.iconst 0, 1) := by decide +kernel
theorem dX0_loaded_1 : decode cX0_loaded 1 = .ok (.istore_n 2, 1) := by decide +kernel
theorem dX0_loaded_2 : decode cX0_loaded 2 = .ok (.iconst 0, 1) := by decide +kernel
theorem dX0_loaded_3 : decode cX0_loaded 3 = .ok (.istore_n 3, 1) := by decide +kernel
theorem dX0_loaded_4 : decode cX0_loaded 4 = .ok (.iload_n 3, 1) := by decide +kernel
theorem dX0_loaded_5 : decode cX0_loaded 5 = .ok (.aload_n 0, 1) := by decide +kernel
theorem dX0_loaded_6 : decode cX0_loaded 6 = .ok (.getfield 9, 3) := by decide +kernel
theorem dX0_loaded_9 : decode cX0_loaded 9 = .ok (.if_icmp .ge 28, 3) := by decide +kernel
theorem dX0_loaded_12 : decode cX0_loaded 12 = .ok (.aload_n 0, 1) := by decide +kernel
theorem dX0_loaded_13 : decode cX0_loaded 13 = .ok (.getfield 19, 3) := by decide +kernel
theorem dX0_loaded_16 : decode cX0_loaded 16 = .ok (.iload_n 3, 1) := by decide +kernel
theorem dX0_loaded_17 : decode cX0_loaded 17 = .ok (.iaload, 1) := by decide +kernel
theorem dX0_loaded_18 : decode cX0_loaded 18 = .ok (.iload_n 1, 1) := by decide +kernel
theorem dX0_loaded_19 : decode cX0_loaded 19 = .ok (.if_icmp .ne 12, 3) := by decide +kernel
theorem dX0_loaded_22 : decode cX0_loaded 22 = .ok (.iload_n 2, 1) := by decide +kernel
theorem dX0_loaded_23 : decode cX0_loaded 23 = .ok (.aload_n 0, 1) := by decide +kernel
theorem dX0_loaded_24 : decode cX0_loaded 24 = .ok (.getfield 23, 3) := by decide +kernel
theorem dX0_loaded_27 : decode cX0_loaded 27 = .ok (.iload_n 3, 1) := by decide +kernel
theorem dX0_loaded_28 : decode cX0_loaded 28 = .ok (.iaload, 1) := by decide +kernel
theorem dX0_loaded_29 : decode cX0_loaded 29 = .ok (.iadd, 1) := by decide +kernel
theorem dX0_loaded_30 : decode cX0_loaded 30 = .ok (.istore_n 2, 1) := by decide +kernel
theorem dX0_loaded_31 : decode cX0_loaded 31 = .ok (.iinc 3 1, 3) := by decide +kernel
theorem dX0_loaded_34 : decode cX0_loaded 34 = .ok (.goto (-30), 3) := by decide +kernel
theorem dX0_loaded_37 : decode cX0_loaded 37 = .ok (.iload_n 2, 1) := by decide +kernel
theorem dX0_loaded_38 : decode cX0_loaded 38 = .ok (.ireturn, 1) := by decide +kernel
theorem dX0_leftOf_0 : decode cX0_leftOf 0 = .ok (.iconst 0, 1) := by decide +kernel
theorem dX0_leftOf_1 : decode cX0_leftOf 1 = .ok (.istore_n 2, 1) := by decide +kernel
theorem dX0_leftOf_2 : decode cX0_leftOf 2 = .ok (.iconst 0, 1) := by decide +kernel
theorem dX0_leftOf_3 : decode cX0_leftOf 3 = .ok (.istore_n 3, 1) := by decide +kernel
theorem dX0_leftOf_4 : decode cX0_leftOf 4 = .ok (.iload_n 3, 1) := by decide +kernel
theorem dX0_leftOf_5 : decode cX0_leftOf 5 = .ok (.aload_n 0, 1) := by decide +kernel
theorem dX0_leftOf_6 : decode cX0_leftOf 6 = .ok (.getfield 9, 3) := by decide +kernel
theorem dX0_leftOf_9 : decode cX0_leftOf 9 = .ok (.if_icmp .ge 28, 3) := by decide +kernel
theorem dX0_leftOf_12 : decode cX0_leftOf 12 = .ok (.aload_n 0, 1) := by decide +kernel
theorem dX0_leftOf_13 : decode cX0_leftOf 13 = .ok (.getfield 19, 3) := by decide +kernel
theorem dX0_leftOf_16 : decode cX0_leftOf 16 = .ok (.iload_n 3, 1) := by decide +kernel
theorem dX0_leftOf_17 : decode cX0_leftOf 17 = .ok (.iaload, 1) := by decide +kernel
theorem dX0_leftOf_18 : decode cX0_leftOf 18 = .ok (.iload_n 1, 1) := by decide +kernel
theorem dX0_leftOf_19 : decode cX0_leftOf 19 = .ok (.if_icmp .ne 12, 3) := by decide +kernel
theorem dX0_leftOf_22 : decode cX0_leftOf 22 = .ok (.iload_n 2, 1) := by decide +kernel
theorem dX0_leftOf_23 : decode cX0_leftOf 23 = .ok (.aload_n 0, 1) := by decide +kernel
theorem dX0_leftOf_24 : decode cX0_leftOf 24 = .ok (.getfield 26, 3) := by decide +kernel
theorem dX0_leftOf_27 : decode cX0_leftOf 27 = .ok (.iload_n 3, 1) := by decide +kernel
theorem dX0_leftOf_28 : decode cX0_leftOf 28 = .ok (.iaload, 1) := by decide +kernel
theorem dX0_leftOf_29 : decode cX0_leftOf 29 = .ok (.iadd, 1) := by decide +kernel
theorem dX0_leftOf_30 : decode cX0_leftOf 30 = .ok (.istore_n 2, 1) := by decide +kernel
theorem dX0_leftOf_31 : decode cX0_leftOf 31 = .ok (.iinc 3 1, 3) := by decide +kernel
theorem dX0_leftOf_34 : decode cX0_leftOf 34 = .ok (.goto (-30), 3) := by decide +kernel
theorem dX0_leftOf_37 : decode cX0_leftOf 37 = .ok (.iload_n 2, 1) := by decide +kernel
theorem dX0_leftOf_38 : decode cX0_leftOf 38 = .ok (.ireturn, 1) := by decide +kernel
theorem dX0_nextAfter_0 : decode cX0_nextAfter 0 = .ok (.iload_n 2, 1) := by decide +kernel
theorem dX0_nextAfter_1 : decode cX0_nextAfter 1 = .ok (.ifCond .lt 11, 3) := by decide +kernel
theorem dX0_nextAfter_4 : decode cX0_nextAfter 4 = .ok (.iload_n 2, 1) := by decide +kernel
theorem dX0_nextAfter_5 : decode cX0_nextAfter 5 = .ok (.aload_n 0, 1) := by decide +kernel
theorem dX0_nextAfter_6 : decode cX0_nextAfter 6 = .ok (.getfield 9, 3) := by decide +kernel
theorem dX0_nextAfter_9 : decode cX0_nextAfter 9 = .ok (.if_icmp .lt 7, 3) := by decide +kernel
theorem dX0_nextAfter_12 : decode cX0_nextAfter 12 = .ok (.iconst 1, 1) := by decide +kernel
theorem dX0_nextAfter_13 : decode cX0_nextAfter 13 = .ok (.goto 4, 3) := by decide +kernel
theorem dX0_nextAfter_16 : decode cX0_nextAfter 16 = .ok (.iconst 0, 1) := by decide +kernel
theorem dX0_nextAfter_17 : decode cX0_nextAfter 17 = .ok (.istore_n 3, 1) := by decide +kernel
theorem dX0_nextAfter_18 : decode cX0_nextAfter 18 = .ok (.iload_n 3, 1) := by decide +kernel
theorem dX0_nextAfter_19 : decode cX0_nextAfter 19 = .ok (.ifCond .eq 7, 3) := by decide +kernel
theorem dX0_nextAfter_22 : decode cX0_nextAfter 22 = .ok (.iconst (-1), 1) := by decide +kernel
theorem dX0_nextAfter_23 : decode cX0_nextAfter 23 = .ok (.goto 14, 3) := by decide +kernel
theorem dX0_nextAfter_26 : decode cX0_nextAfter 26 = .ok (.aload_n 0, 1) := by decide +kernel
theorem dX0_nextAfter_27 : decode cX0_nextAfter 27 = .ok (.getfield 32, 3) := by decide +kernel
theorem dX0_nextAfter_30 : decode cX0_nextAfter 30 = .ok (.iload_n 2, 1) := by decide +kernel
theorem dX0_nextAfter_31 : decode cX0_nextAfter 31 = .ok (.iaload, 1) := by decide +kernel
theorem dX0_nextAfter_32 : decode cX0_nextAfter 32 = .ok (.bipush 60, 2) := by decide +kernel
theorem dX0_nextAfter_34 : decode cX0_nextAfter 34 = .ok (.imul, 1) := by decide +kernel
theorem dX0_nextAfter_35 : decode cX0_nextAfter 35 = .ok (.iload_n 2, 1) := by decide +kernel
theorem dX0_nextAfter_36 : decode cX0_nextAfter 36 = .ok (.iadd, 1) := by decide +kernel
theorem dX0_nextAfter_37 : decode cX0_nextAfter 37 = .ok (.istore 4, 2) := by decide +kernel
theorem dX0_nextAfter_39 : decode cX0_nextAfter 39 = .ok (.iconst (-1), 1) := by decide +kernel
theorem dX0_nextAfter_40 : decode cX0_nextAfter 40 = .ok (.istore 5, 2) := by decide +kernel
theorem dX0_nextAfter_42 : decode cX0_nextAfter 42 = .ok (.iconst (-1), 1) := by decide +kernel
theorem dX0_nextAfter_43 : decode cX0_nextAfter 43 = .ok (.istore 6, 2) := by decide +kernel
theorem dX0_nextAfter_45 : decode cX0_nextAfter 45 = .ok (.iconst 0, 1) := by decide +kernel
theorem dX0_nextAfter_46 : decode cX0_nextAfter 46 = .ok (.istore 7, 2) := by decide +kernel
theorem dX0_nextAfter_48 : decode cX0_nextAfter 48 = .ok (.iload 7, 2) := by decide +kernel
theorem dX0_nextAfter_50 : decode cX0_nextAfter 50 = .ok (.aload_n 0, 1) := by decide +kernel
theorem dX0_nextAfter_51 : decode cX0_nextAfter 51 = .ok (.getfield 9, 3) := by decide +kernel
theorem dX0_nextAfter_54 : decode cX0_nextAfter 54 = .ok (.if_icmp .ge 90, 3) := by decide +kernel
theorem dX0_nextAfter_57 : decode cX0_nextAfter 57 = .ok (.aload_n 0, 1) := by decide +kernel
theorem dX0_nextAfter_58 : decode cX0_nextAfter 58 = .ok (.getfield 32, 3) := by decide +kernel
theorem dX0_nextAfter_61 : decode cX0_nextAfter 61 = .ok (.iload 7, 2) := by decide +kernel
theorem dX0_nextAfter_63 : decode cX0_nextAfter 63 = .ok (.iaload, 1) := by decide +kernel
theorem dX0_nextAfter_64 : decode cX0_nextAfter 64 = .ok (.bipush 60, 2) := by decide +kernel
theorem dX0_nextAfter_66 : decode cX0_nextAfter 66 = .ok (.imul, 1) := by decide +kernel
theorem dX0_nextAfter_67 : decode cX0_nextAfter 67 = .ok (.iload 7, 2) := by decide +kernel
theorem dX0_nextAfter_69 : decode cX0_nextAfter 69 = .ok (.iadd, 1) := by decide +kernel
theorem dX0_nextAfter_70 : decode cX0_nextAfter 70 = .ok (.istore 8, 2) := by decide +kernel
theorem dX0_nextAfter_72 : decode cX0_nextAfter 72 = .ok (.aload_n 0, 1) := by decide +kernel
theorem dX0_nextAfter_73 : decode cX0_nextAfter 73 = .ok (.getfield 26, 3) := by decide +kernel
theorem dX0_nextAfter_76 : decode cX0_nextAfter 76 = .ok (.iload 7, 2) := by decide +kernel
theorem dX0_nextAfter_78 : decode cX0_nextAfter 78 = .ok (.iaload, 1) := by decide +kernel
theorem dX0_nextAfter_79 : decode cX0_nextAfter 79 = .ok (.ifCond .le 23, 3) := by decide +kernel
theorem dX0_nextAfter_82 : decode cX0_nextAfter 82 = .ok (.iload_n 1, 1) := by decide +kernel
theorem dX0_nextAfter_83 : decode cX0_nextAfter 83 = .ok (.iconst (-1), 1) := by decide +kernel
theorem dX0_nextAfter_84 : decode cX0_nextAfter 84 = .ok (.if_icmp .eq 14, 3) := by decide +kernel
theorem dX0_nextAfter_87 : decode cX0_nextAfter 87 = .ok (.aload_n 0, 1) := by decide +kernel
theorem dX0_nextAfter_88 : decode cX0_nextAfter 88 = .ok (.getfield 19, 3) := by decide +kernel
theorem dX0_nextAfter_91 : decode cX0_nextAfter 91 = .ok (.iload 7, 2) := by decide +kernel
theorem dX0_nextAfter_93 : decode cX0_nextAfter 93 = .ok (.iaload, 1) := by decide +kernel
theorem dX0_nextAfter_94 : decode cX0_nextAfter 94 = .ok (.iload_n 1, 1) := by decide +kernel
theorem dX0_nextAfter_95 : decode cX0_nextAfter 95 = .ok (.if_icmp .ne 7, 3) := by decide +kernel
theorem dX0_nextAfter_98 : decode cX0_nextAfter 98 = .ok (.iconst 1, 1) := by decide +kernel
theorem dX0_nextAfter_99 : decode cX0_nextAfter 99 = .ok (.goto 4, 3) := by decide +kernel
theorem dX0_nextAfter_102 : decode cX0_nextAfter 102 = .ok (.iconst 0, 1) := by decide +kernel
theorem dX0_nextAfter_103 : decode cX0_nextAfter 103 = .ok (.istore 9, 2) := by decide +kernel
theorem dX0_nextAfter_105 : decode cX0_nextAfter 105 = .ok (.iload 9, 2) := by decide +kernel
theorem dX0_nextAfter_107 : decode cX0_nextAfter 107 = .ok (.ifCond .eq 31, 3) := by decide +kernel
theorem dX0_nextAfter_110 : decode cX0_nextAfter 110 = .ok (.iload 8, 2) := by decide +kernel
theorem dX0_nextAfter_112 : decode cX0_nextAfter 112 = .ok (.iload 4, 2) := by decide +kernel
theorem dX0_nextAfter_114 : decode cX0_nextAfter 114 = .ok (.if_icmp .le 24, 3) := by decide +kernel
theorem dX0_nextAfter_117 : decode cX0_nextAfter 117 = .ok (.iload 5, 2) := by decide +kernel
theorem dX0_nextAfter_119 : decode cX0_nextAfter 119 = .ok (.iconst (-1), 1) := by decide +kernel
theorem dX0_nextAfter_120 : decode cX0_nextAfter 120 = .ok (.if_icmp .eq 10, 3) := by decide +kernel
theorem dX0_nextAfter_123 : decode cX0_nextAfter 123 = .ok (.iload 8, 2) := by decide +kernel
theorem dX0_nextAfter_125 : decode cX0_nextAfter 125 = .ok (.iload 6, 2) := by decide +kernel
theorem dX0_nextAfter_127 : decode cX0_nextAfter 127 = .ok (.if_icmp .ge 11, 3) := by decide +kernel
theorem dX0_nextAfter_130 : decode cX0_nextAfter 130 = .ok (.iload 7, 2) := by decide +kernel
theorem dX0_nextAfter_132 : decode cX0_nextAfter 132 = .ok (.istore 5, 2) := by decide +kernel
theorem dX0_nextAfter_134 : decode cX0_nextAfter 134 = .ok (.iload 8, 2) := by decide +kernel
theorem dX0_nextAfter_136 : decode cX0_nextAfter 136 = .ok (.istore 6, 2) := by decide +kernel
theorem dX0_nextAfter_138 : decode cX0_nextAfter 138 = .ok (.iinc 7 1, 3) := by decide +kernel
theorem dX0_nextAfter_141 : decode cX0_nextAfter 141 = .ok (.goto (-93), 3) := by decide +kernel
theorem dX0_nextAfter_144 : decode cX0_nextAfter 144 = .ok (.iload 5, 2) := by decide +kernel
theorem dX0_nextAfter_146 : decode cX0_nextAfter 146 = .ok (.ireturn, 1) := by decide +kernel
theorem dX0_amountOf_0 : decode cX0_amountOf 0 = .ok (.lconst 0, 1) := by decide +kernel
theorem dX0_amountOf_1 : decode cX0_amountOf 1 = .ok (.lstore 4, 2) := by decide +kernel
theorem dX0_amountOf_3 : decode cX0_amountOf 3 = .ok (.iload_n 2, 1) := by decide +kernel
theorem dX0_amountOf_4 : decode cX0_amountOf 4 = .ok (.istore 6, 2) := by decide +kernel
theorem dX0_amountOf_6 : decode cX0_amountOf 6 = .ok (.iconst (-1), 1) := by decide +kernel
theorem dX0_amountOf_7 : decode cX0_amountOf 7 = .ok (.istore 7, 2) := by decide +kernel
theorem dX0_amountOf_9 : decode cX0_amountOf 9 = .ok (.iconst 0, 1) := by decide +kernel
theorem dX0_amountOf_10 : decode cX0_amountOf 10 = .ok (.istore 8, 2) := by decide +kernel
theorem dX0_amountOf_12 : decode cX0_amountOf 12 = .ok (.iload 8, 2) := by decide +kernel
theorem dX0_amountOf_14 : decode cX0_amountOf 14 = .ok (.aload_n 0, 1) := by decide +kernel
theorem dX0_amountOf_15 : decode cX0_amountOf 15 = .ok (.getfield 9, 3) := by decide +kernel
theorem dX0_amountOf_18 : decode cX0_amountOf 18 = .ok (.if_icmp .ge 86, 3) := by decide +kernel
theorem dX0_amountOf_21 : decode cX0_amountOf 21 = .ok (.iload 6, 2) := by decide +kernel
theorem dX0_amountOf_23 : decode cX0_amountOf 23 = .ok (.ifCond .le 81, 3) := by decide +kernel
theorem dX0_amountOf_26 : decode cX0_amountOf 26 = .ok (.aload_n 0, 1) := by decide +kernel
theorem dX0_amountOf_27 : decode cX0_amountOf 27 = .ok (.iload_n 1, 1) := by decide +kernel
theorem dX0_amountOf_28 : decode cX0_amountOf 28 = .ok (.iload 7, 2) := by decide +kernel
theorem dX0_amountOf_30 : decode cX0_amountOf 30 = .ok (.invokevirtual 45, 3) := by decide +kernel
theorem dX0_amountOf_33 : decode cX0_amountOf 33 = .ok (.istore 7, 2) := by decide +kernel
theorem dX0_amountOf_35 : decode cX0_amountOf 35 = .ok (.iload 7, 2) := by decide +kernel
theorem dX0_amountOf_37 : decode cX0_amountOf 37 = .ok (.iconst (-1), 1) := by decide +kernel
theorem dX0_amountOf_38 : decode cX0_amountOf 38 = .ok (.if_icmp .ne 6, 3) := by decide +kernel
theorem dX0_amountOf_41 : decode cX0_amountOf 41 = .ok (.goto 63, 3) := by decide +kernel
theorem dX0_amountOf_44 : decode cX0_amountOf 44 = .ok (.iload 6, 2) := by decide +kernel
theorem dX0_amountOf_46 : decode cX0_amountOf 46 = .ok (.aload_n 0, 1) := by decide +kernel
theorem dX0_amountOf_47 : decode cX0_amountOf 47 = .ok (.getfield 26, 3) := by decide +kernel
theorem dX0_amountOf_50 : decode cX0_amountOf 50 = .ok (.iload 7, 2) := by decide +kernel
theorem dX0_amountOf_52 : decode cX0_amountOf 52 = .ok (.iaload, 1) := by decide +kernel
theorem dX0_amountOf_53 : decode cX0_amountOf 53 = .ok (.invokestatic 49, 3) := by decide +kernel
theorem dX0_amountOf_56 : decode cX0_amountOf 56 = .ok (.istore 9, 2) := by decide +kernel
theorem dX0_amountOf_58 : decode cX0_amountOf 58 = .ok (.lload 4, 2) := by decide +kernel
theorem dX0_amountOf_60 : decode cX0_amountOf 60 = .ok (.iload 9, 2) := by decide +kernel
theorem dX0_amountOf_62 : decode cX0_amountOf 62 = .ok (.i2l, 1) := by decide +kernel
theorem dX0_amountOf_63 : decode cX0_amountOf 63 = .ok (.aload_n 0, 1) := by decide +kernel
theorem dX0_amountOf_64 : decode cX0_amountOf 64 = .ok (.getfield 29, 3) := by decide +kernel
theorem dX0_amountOf_67 : decode cX0_amountOf 67 = .ok (.iload 7, 2) := by decide +kernel
theorem dX0_amountOf_69 : decode cX0_amountOf 69 = .ok (.iaload, 1) := by decide +kernel
theorem dX0_amountOf_70 : decode cX0_amountOf 70 = .ok (.i2l, 1) := by decide +kernel
theorem dX0_amountOf_71 : decode cX0_amountOf 71 = .ok (.lmul, 1) := by decide +kernel
theorem dX0_amountOf_72 : decode cX0_amountOf 72 = .ok (.ladd, 1) := by decide +kernel
theorem dX0_amountOf_73 : decode cX0_amountOf 73 = .ok (.lstore 4, 2) := by decide +kernel
theorem dX0_amountOf_75 : decode cX0_amountOf 75 = .ok (.iload 6, 2) := by decide +kernel
theorem dX0_amountOf_77 : decode cX0_amountOf 77 = .ok (.iload 9, 2) := by decide +kernel
theorem dX0_amountOf_79 : decode cX0_amountOf 79 = .ok (.isub, 1) := by decide +kernel
theorem dX0_amountOf_80 : decode cX0_amountOf 80 = .ok (.istore 6, 2) := by decide +kernel
theorem dX0_amountOf_82 : decode cX0_amountOf 82 = .ok (.iload_n 3, 1) := by decide +kernel
theorem dX0_amountOf_83 : decode cX0_amountOf 83 = .ok (.ifCond .eq 15, 3) := by decide +kernel
theorem dX0_amountOf_86 : decode cX0_amountOf 86 = .ok (.aload_n 0, 1) := by decide +kernel
theorem dX0_amountOf_87 : decode cX0_amountOf 87 = .ok (.getfield 26, 3) := by decide +kernel
theorem dX0_amountOf_90 : decode cX0_amountOf 90 = .ok (.iload 7, 2) := by decide +kernel
theorem dX0_amountOf_92 : decode cX0_amountOf 92 = .ok (.dup2, 1) := by decide +kernel
theorem dX0_amountOf_93 : decode cX0_amountOf 93 = .ok (.iaload, 1) := by decide +kernel
theorem dX0_amountOf_94 : decode cX0_amountOf 94 = .ok (.iload 9, 2) := by decide +kernel
theorem dX0_amountOf_96 : decode cX0_amountOf 96 = .ok (.isub, 1) := by decide +kernel
theorem dX0_amountOf_97 : decode cX0_amountOf 97 = .ok (.iastore, 1) := by decide +kernel
theorem dX0_amountOf_98 : decode cX0_amountOf 98 = .ok (.iinc 8 1, 3) := by decide +kernel
theorem dX0_amountOf_101 : decode cX0_amountOf 101 = .ok (.goto (-89), 3) := by decide +kernel
theorem dX0_amountOf_104 : decode cX0_amountOf 104 = .ok (.lload 4, 2) := by decide +kernel
theorem dX0_amountOf_106 : decode cX0_amountOf 106 = .ok (.lreturn, 1) := by decide +kernel
theorem dX1_init_0 : decode cX1_init 0 = .ok (.aload_n 0, 1) := by decide +kernel
theorem dX1_init_1 : decode cX1_init 1 = .ok (.invokespecial 3, 3) := by decide +kernel
theorem dX1_init_4 : decode cX1_init 4 = .ok (.aload_n 0, 1) := by decide +kernel
theorem dX1_init_5 : decode cX1_init 5 = .ok (.iconst 0, 1) := by decide +kernel
theorem dX1_init_6 : decode cX1_init 6 = .ok (.putfield 9, 3) := by decide +kernel
theorem dX1_init_9 : decode cX1_init 9 = .ok (.aload_n 0, 1) := by decide +kernel
theorem dX1_init_10 : decode cX1_init 10 = .ok (.iconst 0, 1) := by decide +kernel
theorem dX1_init_11 : decode cX1_init 11 = .ok (.putfield 15, 3) := by decide +kernel
theorem dX1_init_14 : decode cX1_init 14 = .ok (.aload_n 0, 1) := by decide +kernel
theorem dX1_init_15 : decode cX1_init 15 = .ok (.iconst 5, 1) := by decide +kernel
theorem dX1_init_16 : decode cX1_init 16 = .ok (.anewarray 18, 3) := by decide +kernel
theorem dX1_init_19 : decode cX1_init 19 = .ok (.putfield 20, 3) := by decide +kernel
theorem dX1_init_22 : decode cX1_init 22 = .ok (.iconst 0, 1) := by decide +kernel
theorem dX1_init_23 : decode cX1_init 23 = .ok (.istore_n 1, 1) := by decide +kernel
theorem dX1_init_24 : decode cX1_init 24 = .ok (.iload_n 1, 1) := by decide +kernel
theorem dX1_init_25 : decode cX1_init 25 = .ok (.iconst 4, 1) := by decide +kernel
theorem dX1_init_26 : decode cX1_init 26 = .ok (.if_icmp .gt 22, 3) := by decide +kernel
theorem dX1_init_29 : decode cX1_init 29 = .ok (.aload_n 0, 1) := by decide +kernel
theorem dX1_init_30 : decode cX1_init 30 = .ok (.getfield 20, 3) := by decide +kernel
theorem dX1_init_33 : decode cX1_init 33 = .ok (.iload_n 1, 1) := by decide +kernel
theorem dX1_init_34 : decode cX1_init 34 = .ok (.new 18, 3) := by decide +kernel
theorem dX1_init_37 : decode cX1_init 37 = .ok (.dup, 1) := by decide +kernel
theorem dX1_init_38 : decode cX1_init 38 = .ok (.invokespecial 24, 3) := by decide +kernel
theorem dX1_init_41 : decode cX1_init 41 = .ok (.aastore, 1) := by decide +kernel
theorem dX1_init_42 : decode cX1_init 42 = .ok (.iinc 1 1, 3) := by decide +kernel
theorem dX1_init_45 : decode cX1_init 45 = .ok (.goto (-21), 3) := by decide +kernel
theorem dX1_init_48 : decode cX1_init 48 = .ok (.return_, 1) := by decide +kernel
theorem dX1_prepare_0 : decode cX1_prepare 0 = .ok (.aload_n 0, 1) := by decide +kernel
theorem dX1_prepare_1 : decode cX1_prepare 1 = .ok (.getfield 20, 3) := by decide +kernel
theorem dX1_prepare_4 : decode cX1_prepare 4 = .ok (.aload_n 0, 1) := by decide +kernel
theorem dX1_prepare_5 : decode cX1_prepare 5 = .ok (.invokevirtual 25, 3) := by decide +kernel
theorem dX1_prepare_8 : decode cX1_prepare 8 = .ok (.aaload, 1) := by decide +kernel
theorem dX1_prepare_9 : decode cX1_prepare 9 = .ok (.aload_n 1, 1) := by decide +kernel
theorem dX1_prepare_10 : decode cX1_prepare 10 = .ok (.invokevirtual 29, 3) := by decide +kernel
theorem dX1_prepare_13 : decode cX1_prepare 13 = .ok (.return_, 1) := by decide +kernel
theorem dX1_finish_0 : decode cX1_finish 0 = .ok (.iload_n 1, 1) := by decide +kernel
theorem dX1_finish_1 : decode cX1_finish 1 = .ok (.ifCond .lt 25, 3) := by decide +kernel
theorem dX1_finish_4 : decode cX1_finish 4 = .ok (.aload_n 0, 1) := by decide +kernel
theorem dX1_finish_5 : decode cX1_finish 5 = .ok (.aload_n 0, 1) := by decide +kernel
theorem dX1_finish_6 : decode cX1_finish 6 = .ok (.invokevirtual 25, 3) := by decide +kernel
theorem dX1_finish_9 : decode cX1_finish 9 = .ok (.putfield 15, 3) := by decide +kernel
theorem dX1_finish_12 : decode cX1_finish 12 = .ok (.aload_n 0, 1) := by decide +kernel
theorem dX1_finish_13 : decode cX1_finish 13 = .ok (.aload_n 0, 1) := by decide +kernel
theorem dX1_finish_14 : decode cX1_finish 14 = .ok (.getfield 9, 3) := by decide +kernel
theorem dX1_finish_17 : decode cX1_finish 17 = .ok (.iconst 1, 1) := by decide +kernel
theorem dX1_finish_18 : decode cX1_finish 18 = .ok (.iadd, 1) := by decide +kernel
theorem dX1_finish_19 : decode cX1_finish 19 = .ok (.iconst 4, 1) := by decide +kernel
theorem dX1_finish_20 : decode cX1_finish 20 = .ok (.invokestatic 33, 3) := by decide +kernel
theorem dX1_finish_23 : decode cX1_finish 23 = .ok (.putfield 9, 3) := by decide +kernel
theorem dX1_finish_26 : decode cX1_finish 26 = .ok (.iload_n 1, 1) := by decide +kernel
theorem dX1_finish_27 : decode cX1_finish 27 = .ok (.ireturn, 1) := by decide +kernel
theorem dX1_restore_0 : decode cX1_restore 0 = .ok (.aload_n 0, 1) := by decide +kernel
theorem dX1_restore_1 : decode cX1_restore 1 = .ok (.getfield 9, 3) := by decide +kernel
theorem dX1_restore_4 : decode cX1_restore 4 = .ok (.ifCond .ne 6, 3) := by decide +kernel
theorem dX1_restore_7 : decode cX1_restore 7 = .ok (.bipush (-2), 2) := by decide +kernel
theorem dX1_restore_9 : decode cX1_restore 9 = .ok (.ireturn, 1) := by decide +kernel
theorem dX1_restore_10 : decode cX1_restore 10 = .ok (.aload_n 1, 1) := by decide +kernel
theorem dX1_restore_11 : decode cX1_restore 11 = .ok (.aload_n 0, 1) := by decide +kernel
theorem dX1_restore_12 : decode cX1_restore 12 = .ok (.getfield 20, 3) := by decide +kernel
theorem dX1_restore_15 : decode cX1_restore 15 = .ok (.aload_n 0, 1) := by decide +kernel
theorem dX1_restore_16 : decode cX1_restore 16 = .ok (.getfield 15, 3) := by decide +kernel
theorem dX1_restore_19 : decode cX1_restore 19 = .ok (.aaload, 1) := by decide +kernel
theorem dX1_restore_20 : decode cX1_restore 20 = .ok (.invokevirtual 29, 3) := by decide +kernel
theorem dX1_restore_23 : decode cX1_restore 23 = .ok (.aload_n 0, 1) := by decide +kernel
theorem dX1_restore_24 : decode cX1_restore 24 = .ok (.aload_n 0, 1) := by decide +kernel
theorem dX1_restore_25 : decode cX1_restore 25 = .ok (.getfield 15, 3) := by decide +kernel
theorem dX1_restore_28 : decode cX1_restore 28 = .ok (.ifCond .le 12, 3) := by decide +kernel
theorem dX1_restore_31 : decode cX1_restore 31 = .ok (.aload_n 0, 1) := by decide +kernel
theorem dX1_restore_32 : decode cX1_restore 32 = .ok (.getfield 15, 3) := by decide +kernel
theorem dX1_restore_35 : decode cX1_restore 35 = .ok (.iconst 1, 1) := by decide +kernel
theorem dX1_restore_36 : decode cX1_restore 36 = .ok (.isub, 1) := by decide +kernel
theorem dX1_restore_37 : decode cX1_restore 37 = .ok (.goto 4, 3) := by decide +kernel
theorem dX1_restore_40 : decode cX1_restore 40 = .ok (.iconst 4, 1) := by decide +kernel
theorem dX1_restore_41 : decode cX1_restore 41 = .ok (.putfield 15, 3) := by decide +kernel
theorem dX1_restore_44 : decode cX1_restore 44 = .ok (.aload_n 0, 1) := by decide +kernel
theorem dX1_restore_45 : decode cX1_restore 45 = .ok (.dup, 1) := by decide +kernel
theorem dX1_restore_46 : decode cX1_restore 46 = .ok (.getfield 9, 3) := by decide +kernel
theorem dX1_restore_49 : decode cX1_restore 49 = .ok (.iconst 1, 1) := by decide +kernel
theorem dX1_restore_50 : decode cX1_restore 50 = .ok (.isub, 1) := by decide +kernel
theorem dX1_restore_51 : decode cX1_restore 51 = .ok (.putfield 9, 3) := by decide +kernel
theorem dX1_restore_54 : decode cX1_restore 54 = .ok (.aload_n 0, 1) := by decide +kernel
theorem dX1_restore_55 : decode cX1_restore 55 = .ok (.getfield 9, 3) := by decide +kernel
theorem dX1_restore_58 : decode cX1_restore 58 = .ok (.ireturn, 1) := by decide +kernel
theorem dX1_spare_0 : decode cX1_spare 0 = .ok (.aload_n 0, 1) := by decide +kernel
theorem dX1_spare_1 : decode cX1_spare 1 = .ok (.getfield 15, 3) := by decide +kernel
theorem dX1_spare_4 : decode cX1_spare 4 = .ok (.iconst 4, 1) := by decide +kernel
theorem dX1_spare_5 : decode cX1_spare 5 = .ok (.if_icmp .ge 12, 3) := by decide +kernel
theorem dX1_spare_8 : decode cX1_spare 8 = .ok (.aload_n 0, 1) := by decide +kernel
theorem dX1_spare_9 : decode cX1_spare 9 = .ok (.getfield 15, 3) := by decide +kernel
theorem dX1_spare_12 : decode cX1_spare 12 = .ok (.iconst 1, 1) := by decide +kernel
theorem dX1_spare_13 : decode cX1_spare 13 = .ok (.iadd, 1) := by decide +kernel
theorem dX1_spare_14 : decode cX1_spare 14 = .ok (.goto 4, 3) := by decide +kernel
theorem dX1_spare_17 : decode cX1_spare 17 = .ok (.iconst 0, 1) := by decide +kernel
theorem dX1_spare_18 : decode cX1_spare 18 = .ok (.ireturn, 1) := by decide +kernel
theorem dX2_init_0 : decode cX2_init 0 = .ok (.aload_n 0, 1) := by decide +kernel
theorem dX2_init_1 : decode cX2_init 1 = .ok (.invokespecial 3, 3) := by decide +kernel
theorem dX2_init_4 : decode cX2_init 4 = .ok (.aload_n 0, 1) := by decide +kernel
theorem dX2_init_5 : decode cX2_init 5 = .ok (.iconst 0, 1) := by decide +kernel
theorem dX2_init_6 : decode cX2_init 6 = .ok (.putfield 9, 3) := by decide +kernel
theorem dX2_init_9 : decode cX2_init 9 = .ok (.aload_n 0, 1) := by decide +kernel
theorem dX2_init_10 : decode cX2_init 10 = .ok (.iconst 5, 1) := by decide +kernel
theorem dX2_init_11 : decode cX2_init 11 = .ok (.newarray .int, 2) := by decide +kernel
theorem dX2_init_13 : decode cX2_init 13 = .ok (.putfield 15, 3) := by decide +kernel
theorem dX2_init_16 : decode cX2_init 16 = .ok (.aload_n 0, 1) := by decide +kernel
theorem dX2_init_17 : decode cX2_init 17 = .ok (.iconst 5, 1) := by decide +kernel
theorem dX2_init_18 : decode cX2_init 18 = .ok (.newarray .int, 2) := by decide +kernel
theorem dX2_init_20 : decode cX2_init 20 = .ok (.putfield 19, 3) := by decide +kernel
theorem dX2_init_23 : decode cX2_init 23 = .ok (.aload_n 0, 1) := by decide +kernel
theorem dX2_init_24 : decode cX2_init 24 = .ok (.bipush 40, 2) := by decide +kernel
theorem dX2_init_26 : decode cX2_init 26 = .ok (.newarray .int, 2) := by decide +kernel
theorem dX2_init_28 : decode cX2_init 28 = .ok (.putfield 22, 3) := by decide +kernel
theorem dX2_init_31 : decode cX2_init 31 = .ok (.aload_n 0, 1) := by decide +kernel
theorem dX2_init_32 : decode cX2_init 32 = .ok (.bipush 40, 2) := by decide +kernel
theorem dX2_init_34 : decode cX2_init 34 = .ok (.newarray .int, 2) := by decide +kernel
theorem dX2_init_36 : decode cX2_init 36 = .ok (.putfield 25, 3) := by decide +kernel
theorem dX2_init_39 : decode cX2_init 39 = .ok (.return_, 1) := by decide +kernel
theorem dX2_become_0 : decode cX2_become 0 = .ok (.aload_n 0, 1) := by decide +kernel
theorem dX2_become_1 : decode cX2_become 1 = .ok (.aload_n 1, 1) := by decide +kernel
theorem dX2_become_2 : decode cX2_become 2 = .ok (.getfield 9, 3) := by decide +kernel
theorem dX2_become_5 : decode cX2_become 5 = .ok (.putfield 9, 3) := by decide +kernel
theorem dX2_become_8 : decode cX2_become 8 = .ok (.aload_n 1, 1) := by decide +kernel
theorem dX2_become_9 : decode cX2_become 9 = .ok (.getfield 15, 3) := by decide +kernel
theorem dX2_become_12 : decode cX2_become 12 = .ok (.iconst 0, 1) := by decide +kernel
theorem dX2_become_13 : decode cX2_become 13 = .ok (.aload_n 0, 1) := by decide +kernel
theorem dX2_become_14 : decode cX2_become 14 = .ok (.getfield 15, 3) := by decide +kernel
theorem dX2_become_17 : decode cX2_become 17 = .ok (.iconst 0, 1) := by decide +kernel
theorem dX2_become_18 : decode cX2_become 18 = .ok (.iconst 5, 1) := by decide +kernel
theorem dX2_become_19 : decode cX2_become 19 = .ok (.invokestatic 28, 3) := by decide +kernel
theorem dX2_become_22 : decode cX2_become 22 = .ok (.aload_n 1, 1) := by decide +kernel
theorem dX2_become_23 : decode cX2_become 23 = .ok (.getfield 19, 3) := by decide +kernel
theorem dX2_become_26 : decode cX2_become 26 = .ok (.iconst 0, 1) := by decide +kernel
theorem dX2_become_27 : decode cX2_become 27 = .ok (.aload_n 0, 1) := by decide +kernel
theorem dX2_become_28 : decode cX2_become 28 = .ok (.getfield 19, 3) := by decide +kernel
theorem dX2_become_31 : decode cX2_become 31 = .ok (.iconst 0, 1) := by decide +kernel
theorem dX2_become_32 : decode cX2_become 32 = .ok (.iconst 5, 1) := by decide +kernel
theorem dX2_become_33 : decode cX2_become 33 = .ok (.invokestatic 28, 3) := by decide +kernel
theorem dX2_become_36 : decode cX2_become 36 = .ok (.aload_n 1, 1) := by decide +kernel
theorem dX2_become_37 : decode cX2_become 37 = .ok (.getfield 22, 3) := by decide +kernel
theorem dX2_become_40 : decode cX2_become 40 = .ok (.iconst 0, 1) := by decide +kernel
theorem dX2_become_41 : decode cX2_become 41 = .ok (.aload_n 0, 1) := by decide +kernel
theorem dX2_become_42 : decode cX2_become 42 = .ok (.getfield 22, 3) := by decide +kernel
theorem dX2_become_45 : decode cX2_become 45 = .ok (.iconst 0, 1) := by decide +kernel
theorem dX2_become_46 : decode cX2_become 46 = .ok (.bipush 40, 2) := by decide +kernel
theorem dX2_become_48 : decode cX2_become 48 = .ok (.invokestatic 28, 3) := by decide +kernel
theorem dX2_become_51 : decode cX2_become 51 = .ok (.aload_n 1, 1) := by decide +kernel
theorem dX2_become_52 : decode cX2_become 52 = .ok (.getfield 25, 3) := by decide +kernel
theorem dX2_become_55 : decode cX2_become 55 = .ok (.iconst 0, 1) := by decide +kernel
theorem dX2_become_56 : decode cX2_become 56 = .ok (.aload_n 0, 1) := by decide +kernel
theorem dX2_become_57 : decode cX2_become 57 = .ok (.getfield 25, 3) := by decide +kernel
theorem dX2_become_60 : decode cX2_become 60 = .ok (.iconst 0, 1) := by decide +kernel
theorem dX2_become_61 : decode cX2_become 61 = .ok (.bipush 40, 2) := by decide +kernel
theorem dX2_become_63 : decode cX2_become 63 = .ok (.invokestatic 28, 3) := by decide +kernel
theorem dX2_become_66 : decode cX2_become 66 = .ok (.return_, 1) := by decide +kernel
theorem dX2_place_0 : decode cX2_place 0 = .ok (.iload_n 1, 1) := by decide +kernel
theorem dX2_place_1 : decode cX2_place 1 = .ok (.bipush 8, 2) := by decide +kernel
theorem dX2_place_3 : decode cX2_place 3 = .ok (.imul, 1) := by decide +kernel
theorem dX2_place_4 : decode cX2_place 4 = .ok (.iload_n 2, 1) := by decide +kernel
theorem dX2_place_5 : decode cX2_place 5 = .ok (.iadd, 1) := by decide +kernel
theorem dX2_place_6 : decode cX2_place 6 = .ok (.ireturn, 1) := by decide +kernel
theorem dX2_inState_0 : decode cX2_inState 0 = .ok (.iconst 0, 1) := by decide +kernel
theorem dX2_inState_1 : decode cX2_inState 1 = .ok (.istore_n 2, 1) := by decide +kernel
theorem dX2_inState_2 : decode cX2_inState 2 = .ok (.iconst 0, 1) := by decide +kernel
theorem dX2_inState_3 : decode cX2_inState 3 = .ok (.istore_n 3, 1) := by decide +kernel
theorem dX2_inState_4 : decode cX2_inState 4 = .ok (.iload_n 3, 1) := by decide +kernel
theorem dX2_inState_5 : decode cX2_inState 5 = .ok (.aload_n 0, 1) := by decide +kernel
theorem dX2_inState_6 : decode cX2_inState 6 = .ok (.getfield 9, 3) := by decide +kernel
theorem dX2_inState_9 : decode cX2_inState 9 = .ok (.if_icmp .ge 22, 3) := by decide +kernel
theorem dX2_inState_12 : decode cX2_inState 12 = .ok (.aload_n 0, 1) := by decide +kernel
theorem dX2_inState_13 : decode cX2_inState 13 = .ok (.getfield 15, 3) := by decide +kernel
theorem dX2_inState_16 : decode cX2_inState 16 = .ok (.iload_n 3, 1) := by decide +kernel
theorem dX2_inState_17 : decode cX2_inState 17 = .ok (.iaload, 1) := by decide +kernel
theorem dX2_inState_18 : decode cX2_inState 18 = .ok (.iload_n 1, 1) := by decide +kernel
theorem dX2_inState_19 : decode cX2_inState 19 = .ok (.if_icmp .ne 6, 3) := by decide +kernel
theorem dX2_inState_22 : decode cX2_inState 22 = .ok (.iinc 2 1, 3) := by decide +kernel
theorem dX2_inState_25 : decode cX2_inState 25 = .ok (.iinc 3 1, 3) := by decide +kernel
theorem dX2_inState_28 : decode cX2_inState 28 = .ok (.goto (-24), 3) := by decide +kernel
theorem dX2_inState_31 : decode cX2_inState 31 = .ok (.iload_n 2, 1) := by decide +kernel
theorem dX2_inState_32 : decode cX2_inState 32 = .ok (.ireturn, 1) := by decide +kernel
theorem dX2_sumOfLocker_0 : decode cX2_sumOfLocker 0 = .ok (.iconst 0, 1) := by decide +kernel
theorem dX2_sumOfLocker_1 : decode cX2_sumOfLocker 1 = .ok (.istore_n 3, 1) := by decide +kernel
theorem dX2_sumOfLocker_2 : decode cX2_sumOfLocker 2 = .ok (.iconst 0, 1) := by decide +kernel
theorem dX2_sumOfLocker_3 : decode cX2_sumOfLocker 3 = .ok (.istore 4, 2) := by decide +kernel
theorem dX2_sumOfLocker_5 : decode cX2_sumOfLocker 5 = .ok (.iload 4, 2) := by decide +kernel
theorem dX2_sumOfLocker_7 : decode cX2_sumOfLocker 7 = .ok (.bipush 8, 2) := by decide +kernel
theorem dX2_sumOfLocker_9 : decode cX2_sumOfLocker 9 = .ok (.if_icmp .ge 21, 3) := by decide +kernel
theorem dX2_sumOfLocker_12 : decode cX2_sumOfLocker 12 = .ok (.iload_n 3, 1) := by decide +kernel
theorem dX2_sumOfLocker_13 : decode cX2_sumOfLocker 13 = .ok (.aload_n 1, 1) := by decide +kernel
theorem dX2_sumOfLocker_14 : decode cX2_sumOfLocker 14 = .ok (.aload_n 0, 1) := by decide +kernel
theorem dX2_sumOfLocker_15 : decode cX2_sumOfLocker 15 = .ok (.iload_n 2, 1) := by decide +kernel
theorem dX2_sumOfLocker_16 : decode cX2_sumOfLocker 16 = .ok (.iload 4, 2) := by decide +kernel
theorem dX2_sumOfLocker_18 : decode cX2_sumOfLocker 18 = .ok (.invokevirtual 34, 3) := by decide +kernel
theorem dX2_sumOfLocker_21 : decode cX2_sumOfLocker 21 = .ok (.iaload, 1) := by decide +kernel
theorem dX2_sumOfLocker_22 : decode cX2_sumOfLocker 22 = .ok (.iadd, 1) := by decide +kernel
theorem dX2_sumOfLocker_23 : decode cX2_sumOfLocker 23 = .ok (.istore_n 3, 1) := by decide +kernel
theorem dX2_sumOfLocker_24 : decode cX2_sumOfLocker 24 = .ok (.iinc 4 1, 3) := by decide +kernel
theorem dX2_sumOfLocker_27 : decode cX2_sumOfLocker 27 = .ok (.goto (-22), 3) := by decide +kernel
theorem dX2_sumOfLocker_30 : decode cX2_sumOfLocker 30 = .ok (.iload_n 3, 1) := by decide +kernel
theorem dX2_sumOfLocker_31 : decode cX2_sumOfLocker 31 = .ok (.ireturn, 1) := by decide +kernel
theorem dX2_sumOfGood_0 : decode cX2_sumOfGood 0 = .ok (.iconst 0, 1) := by decide +kernel
theorem dX2_sumOfGood_1 : decode cX2_sumOfGood 1 = .ok (.istore_n 3, 1) := by decide +kernel
theorem dX2_sumOfGood_2 : decode cX2_sumOfGood 2 = .ok (.iconst 0, 1) := by decide +kernel
theorem dX2_sumOfGood_3 : decode cX2_sumOfGood 3 = .ok (.istore 4, 2) := by decide +kernel
theorem dX2_sumOfGood_5 : decode cX2_sumOfGood 5 = .ok (.iload 4, 2) := by decide +kernel
theorem dX2_sumOfGood_7 : decode cX2_sumOfGood 7 = .ok (.aload_n 0, 1) := by decide +kernel
theorem dX2_sumOfGood_8 : decode cX2_sumOfGood 8 = .ok (.getfield 9, 3) := by decide +kernel
theorem dX2_sumOfGood_11 : decode cX2_sumOfGood 11 = .ok (.if_icmp .ge 21, 3) := by decide +kernel
theorem dX2_sumOfGood_14 : decode cX2_sumOfGood 14 = .ok (.iload_n 3, 1) := by decide +kernel
theorem dX2_sumOfGood_15 : decode cX2_sumOfGood 15 = .ok (.aload_n 1, 1) := by decide +kernel
theorem dX2_sumOfGood_16 : decode cX2_sumOfGood 16 = .ok (.aload_n 0, 1) := by decide +kernel
theorem dX2_sumOfGood_17 : decode cX2_sumOfGood 17 = .ok (.iload 4, 2) := by decide +kernel
theorem dX2_sumOfGood_19 : decode cX2_sumOfGood 19 = .ok (.iload_n 2, 1) := by decide +kernel
theorem dX2_sumOfGood_20 : decode cX2_sumOfGood 20 = .ok (.invokevirtual 34, 3) := by decide +kernel
theorem dX2_sumOfGood_23 : decode cX2_sumOfGood 23 = .ok (.iaload, 1) := by decide +kernel
theorem dX2_sumOfGood_24 : decode cX2_sumOfGood 24 = .ok (.iadd, 1) := by decide +kernel
theorem dX2_sumOfGood_25 : decode cX2_sumOfGood 25 = .ok (.istore_n 3, 1) := by decide +kernel
theorem dX2_sumOfGood_26 : decode cX2_sumOfGood 26 = .ok (.iinc 4 1, 3) := by decide +kernel
theorem dX2_sumOfGood_29 : decode cX2_sumOfGood 29 = .ok (.goto (-24), 3) := by decide +kernel
theorem dX2_sumOfGood_32 : decode cX2_sumOfGood 32 = .ok (.iload_n 3, 1) := by decide +kernel
theorem dX2_sumOfGood_33 : decode cX2_sumOfGood 33 = .ok (.ireturn, 1) := by decide +kernel
theorem dX2_takeFromAny_0 : decode cX2_takeFromAny 0 = .ok (.aload_n 0, 1) := by decide +kernel
theorem dX2_takeFromAny_1 : decode cX2_takeFromAny 1 = .ok (.aload_n 0, 1) := by decide +kernel
theorem dX2_takeFromAny_2 : decode cX2_takeFromAny 2 = .ok (.getfield 25, 3) := by decide +kernel
theorem dX2_takeFromAny_5 : decode cX2_takeFromAny 5 = .ok (.iload_n 1, 1) := by decide +kernel
theorem dX2_takeFromAny_6 : decode cX2_takeFromAny 6 = .ok (.iload_n 2, 1) := by decide +kernel
theorem dX2_takeFromAny_7 : decode cX2_takeFromAny 7 = .ok (.invokevirtual 38, 3) := by decide +kernel
theorem dX2_takeFromAny_10 : decode cX2_takeFromAny 10 = .ok (.istore_n 3, 1) := by decide +kernel
theorem dX2_takeFromAny_11 : decode cX2_takeFromAny 11 = .ok (.aload_n 0, 1) := by decide +kernel
theorem dX2_takeFromAny_12 : decode cX2_takeFromAny 12 = .ok (.aload_n 0, 1) := by decide +kernel
theorem dX2_takeFromAny_13 : decode cX2_takeFromAny 13 = .ok (.getfield 22, 3) := by decide +kernel
theorem dX2_takeFromAny_16 : decode cX2_takeFromAny 16 = .ok (.iload_n 1, 1) := by decide +kernel
theorem dX2_takeFromAny_17 : decode cX2_takeFromAny 17 = .ok (.iload_n 3, 1) := by decide +kernel
theorem dX2_takeFromAny_18 : decode cX2_takeFromAny 18 = .ok (.invokevirtual 38, 3) := by decide +kernel
theorem dX2_takeFromAny_21 : decode cX2_takeFromAny 21 = .ok (.pop, 1) := by decide +kernel
theorem dX2_takeFromAny_22 : decode cX2_takeFromAny 22 = .ok (.return_, 1) := by decide +kernel
theorem dX2_takeLowestFirst_0 : decode cX2_takeLowestFirst 0 = .ok (.iload_n 3, 1) := by decide +kernel
theorem dX2_takeLowestFirst_1 : decode cX2_takeLowestFirst 1 = .ok (.istore 4, 2) := by decide +kernel
theorem dX2_takeLowestFirst_3 : decode cX2_takeLowestFirst 3 = .ok (.iconst 0, 1) := by decide +kernel
theorem dX2_takeLowestFirst_4 : decode cX2_takeLowestFirst 4 = .ok (.istore 5, 2) := by decide +kernel
theorem dX2_takeLowestFirst_6 : decode cX2_takeLowestFirst 6 = .ok (.iload 5, 2) := by decide +kernel
theorem dX2_takeLowestFirst_8 : decode cX2_takeLowestFirst 8 = .ok (.aload_n 0, 1) := by decide +kernel
theorem dX2_takeLowestFirst_9 : decode cX2_takeLowestFirst 9 = .ok (.getfield 9, 3) := by decide +kernel
theorem dX2_takeLowestFirst_12 : decode cX2_takeLowestFirst 12 = .ok (.if_icmp .ge 45, 3) := by decide +kernel
theorem dX2_takeLowestFirst_15 : decode cX2_takeLowestFirst 15 = .ok (.aload_n 0, 1) := by decide +kernel
theorem dX2_takeLowestFirst_16 : decode cX2_takeLowestFirst 16 = .ok (.iload 5, 2) := by decide +kernel
theorem dX2_takeLowestFirst_18 : decode cX2_takeLowestFirst 18 = .ok (.iload_n 2, 1) := by decide +kernel
theorem dX2_takeLowestFirst_19 : decode cX2_takeLowestFirst 19 = .ok (.invokevirtual 34, 3) := by decide +kernel
theorem dX2_takeLowestFirst_22 : decode cX2_takeLowestFirst 22 = .ok (.istore 6, 2) := by decide +kernel
theorem dX2_takeLowestFirst_24 : decode cX2_takeLowestFirst 24 = .ok (.iload 4, 2) := by decide +kernel
theorem dX2_takeLowestFirst_26 : decode cX2_takeLowestFirst 26 = .ok (.aload_n 1, 1) := by decide +kernel
theorem dX2_takeLowestFirst_27 : decode cX2_takeLowestFirst 27 = .ok (.iload 6, 2) := by decide +kernel
theorem dX2_takeLowestFirst_29 : decode cX2_takeLowestFirst 29 = .ok (.iaload, 1) := by decide +kernel
theorem dX2_takeLowestFirst_30 : decode cX2_takeLowestFirst 30 = .ok (.invokestatic 42, 3) := by decide +kernel
theorem dX2_takeLowestFirst_33 : decode cX2_takeLowestFirst 33 = .ok (.istore 7, 2) := by decide +kernel
theorem dX2_takeLowestFirst_35 : decode cX2_takeLowestFirst 35 = .ok (.aload_n 1, 1) := by decide +kernel
theorem dX2_takeLowestFirst_36 : decode cX2_takeLowestFirst 36 = .ok (.iload 6, 2) := by decide +kernel
theorem dX2_takeLowestFirst_38 : decode cX2_takeLowestFirst 38 = .ok (.dup2, 1) := by decide +kernel
theorem dX2_takeLowestFirst_39 : decode cX2_takeLowestFirst 39 = .ok (.iaload, 1) := by decide +kernel
theorem dX2_takeLowestFirst_40 : decode cX2_takeLowestFirst 40 = .ok (.iload 7, 2) := by decide +kernel
theorem dX2_takeLowestFirst_42 : decode cX2_takeLowestFirst 42 = .ok (.isub, 1) := by decide +kernel
theorem dX2_takeLowestFirst_43 : decode cX2_takeLowestFirst 43 = .ok (.iastore, 1) := by decide +kernel
theorem dX2_takeLowestFirst_44 : decode cX2_takeLowestFirst 44 = .ok (.iload 4, 2) := by decide +kernel
theorem dX2_takeLowestFirst_46 : decode cX2_takeLowestFirst 46 = .ok (.iload 7, 2) := by decide +kernel
theorem dX2_takeLowestFirst_48 : decode cX2_takeLowestFirst 48 = .ok (.isub, 1) := by decide +kernel
theorem dX2_takeLowestFirst_49 : decode cX2_takeLowestFirst 49 = .ok (.istore 4, 2) := by decide +kernel
theorem dX2_takeLowestFirst_51 : decode cX2_takeLowestFirst 51 = .ok (.iinc 5 1, 3) := by decide +kernel
theorem dX2_takeLowestFirst_54 : decode cX2_takeLowestFirst 54 = .ok (.goto (-48), 3) := by decide +kernel
theorem dX2_takeLowestFirst_57 : decode cX2_takeLowestFirst 57 = .ok (.iload 4, 2) := by decide +kernel
theorem dX2_takeLowestFirst_59 : decode cX2_takeLowestFirst 59 = .ok (.ireturn, 1) := by decide +kernel
theorem dX3_init_0 : decode cX3_init 0 = .ok (.aload_n 0, 1) := by decide +kernel
theorem dX3_init_1 : decode cX3_init 1 = .ok (.invokespecial 3, 3) := by decide +kernel
theorem dX3_init_4 : decode cX3_init 4 = .ok (.aload_n 0, 1) := by decide +kernel
theorem dX3_init_5 : decode cX3_init 5 = .ok (.iconst 0, 1) := by decide +kernel
theorem dX3_init_6 : decode cX3_init 6 = .ok (.putfield 9, 3) := by decide +kernel
theorem dX3_init_9 : decode cX3_init 9 = .ok (.aload_n 0, 1) := by decide +kernel
theorem dX3_init_10 : decode cX3_init 10 = .ok (.iconst 4, 1) := by decide +kernel
theorem dX3_init_11 : decode cX3_init 11 = .ok (.newarray .int, 2) := by decide +kernel
theorem dX3_init_13 : decode cX3_init 13 = .ok (.putfield 15, 3) := by decide +kernel
theorem dX3_init_16 : decode cX3_init 16 = .ok (.aload_n 0, 1) := by decide +kernel
theorem dX3_init_17 : decode cX3_init 17 = .ok (.bipush 80, 2) := by decide +kernel
theorem dX3_init_19 : decode cX3_init 19 = .ok (.newarray .char, 2) := by decide +kernel
theorem dX3_init_21 : decode cX3_init 21 = .ok (.putfield 19, 3) := by decide +kernel
theorem dX3_init_24 : decode cX3_init 24 = .ok (.return_, 1) := by decide +kernel
theorem dX3_append_0 : decode cX3_append 0 = .ok (.iload_n 1, 1) := by decide +kernel
theorem dX3_append_1 : decode cX3_append 1 = .ok (.bipush 32, 2) := by decide +kernel
theorem dX3_append_3 : decode cX3_append 3 = .ok (.if_icmp .lt 9, 3) := by decide +kernel
theorem dX3_append_6 : decode cX3_append 6 = .ok (.iload_n 1, 1) := by decide +kernel
theorem dX3_append_7 : decode cX3_append 7 = .ok (.bipush 126, 2) := by decide +kernel
theorem dX3_append_9 : decode cX3_append 9 = .ok (.if_icmp .le 5, 3) := by decide +kernel
theorem dX3_append_12 : decode cX3_append 12 = .ok (.iconst (-1), 1) := by decide +kernel
theorem dX3_append_13 : decode cX3_append 13 = .ok (.ireturn, 1) := by decide +kernel
theorem dX3_append_14 : decode cX3_append 14 = .ok (.aload_n 0, 1) := by decide +kernel
theorem dX3_append_15 : decode cX3_append 15 = .ok (.getfield 9, 3) := by decide +kernel
theorem dX3_append_18 : decode cX3_append 18 = .ok (.bipush 80, 2) := by decide +kernel
theorem dX3_append_20 : decode cX3_append 20 = .ok (.if_icmp .lt 6, 3) := by decide +kernel
theorem dX3_append_23 : decode cX3_append 23 = .ok (.bipush (-3), 2) := by decide +kernel
theorem dX3_append_25 : decode cX3_append 25 = .ok (.ireturn, 1) := by decide +kernel
theorem dX3_append_26 : decode cX3_append 26 = .ok (.aload_n 0, 1) := by decide +kernel
theorem dX3_append_27 : decode cX3_append 27 = .ok (.getfield 19, 3) := by decide +kernel
theorem dX3_append_30 : decode cX3_append 30 = .ok (.aload_n 0, 1) := by decide +kernel
theorem dX3_append_31 : decode cX3_append 31 = .ok (.getfield 9, 3) := by decide +kernel
theorem dX3_append_34 : decode cX3_append 34 = .ok (.iload_n 1, 1) := by decide +kernel
theorem dX3_append_35 : decode cX3_append 35 = .ok (.i2c, 1) := by decide +kernel
theorem dX3_append_36 : decode cX3_append 36 = .ok (.castore, 1) := by decide +kernel
theorem dX3_append_37 : decode cX3_append 37 = .ok (.aload_n 0, 1) := by decide +kernel
theorem dX3_append_38 : decode cX3_append 38 = .ok (.dup, 1) := by decide +kernel
theorem dX3_append_39 : decode cX3_append 39 = .ok (.getfield 9, 3) := by decide +kernel
theorem dX3_append_42 : decode cX3_append 42 = .ok (.iconst 1, 1) := by decide +kernel
theorem dX3_append_43 : decode cX3_append 43 = .ok (.iadd, 1) := by decide +kernel
theorem dX3_append_44 : decode cX3_append 44 = .ok (.putfield 9, 3) := by decide +kernel
theorem dX3_append_47 : decode cX3_append 47 = .ok (.aload_n 0, 1) := by decide +kernel
theorem dX3_append_48 : decode cX3_append 48 = .ok (.getfield 9, 3) := by decide +kernel
theorem dX3_append_51 : decode cX3_append 51 = .ok (.ireturn, 1) := by decide +kernel
theorem dX3_tryOn_0 : decode cX3_tryOn 0 = .ok (.aload_n 1, 1) := by decide +kernel
theorem dX3_tryOn_1 : decode cX3_tryOn 1 = .ok (.aload_n 2, 1) := by decide +kernel
theorem dX3_tryOn_2 : decode cX3_tryOn 2 = .ok (.invokevirtual 23, 3) := by decide +kernel
theorem dX3_tryOn_5 : decode cX3_tryOn 5 = .ok (.aload_n 0, 1) := by decide +kernel
theorem dX3_tryOn_6 : decode cX3_tryOn 6 = .ok (.iconst 0, 1) := by decide +kernel
theorem dX3_tryOn_7 : decode cX3_tryOn 7 = .ok (.putfield 29, 3) := by decide +kernel
theorem dX3_tryOn_10 : decode cX3_tryOn 10 = .ok (.aload_n 0, 1) := by decide +kernel
theorem dX3_tryOn_11 : decode cX3_tryOn 11 = .ok (.iconst 0, 1) := by decide +kernel
theorem dX3_tryOn_12 : decode cX3_tryOn 12 = .ok (.putfield 32, 3) := by decide +kernel
theorem dX3_tryOn_15 : decode cX3_tryOn 15 = .ok (.aload_n 0, 1) := by decide +kernel
theorem dX3_tryOn_16 : decode cX3_tryOn 16 = .ok (.iconst 0, 1) := by decide +kernel
theorem dX3_tryOn_17 : decode cX3_tryOn 17 = .ok (.putfield 35, 3) := by decide +kernel
theorem dX3_tryOn_20 : decode cX3_tryOn 20 = .ok (.iconst 0, 1) := by decide +kernel
theorem dX3_tryOn_21 : decode cX3_tryOn 21 = .ok (.istore_n 3, 1) := by decide +kernel
theorem dX3_tryOn_22 : decode cX3_tryOn 22 = .ok (.iload_n 3, 1) := by decide +kernel
theorem dX3_tryOn_23 : decode cX3_tryOn 23 = .ok (.bipush 80, 2) := by decide +kernel
theorem dX3_tryOn_25 : decode cX3_tryOn 25 = .ok (.if_icmp .ge 75, 3) := by decide +kernel
theorem dX3_tryOn_28 : decode cX3_tryOn 28 = .ok (.aload_n 0, 1) := by decide +kernel
theorem dX3_tryOn_29 : decode cX3_tryOn 29 = .ok (.getfield 35, 3) := by decide +kernel
theorem dX3_tryOn_32 : decode cX3_tryOn 32 = .ok (.aload_n 0, 1) := by decide +kernel
theorem dX3_tryOn_33 : decode cX3_tryOn 33 = .ok (.getfield 9, 3) := by decide +kernel
theorem dX3_tryOn_36 : decode cX3_tryOn 36 = .ok (.if_icmp .ge 64, 3) := by decide +kernel
theorem dX3_tryOn_39 : decode cX3_tryOn 39 = .ok (.aload_n 0, 1) := by decide +kernel
theorem dX3_tryOn_40 : decode cX3_tryOn 40 = .ok (.getfield 35, 3) := by decide +kernel
theorem dX3_tryOn_43 : decode cX3_tryOn 43 = .ok (.istore 4, 2) := by decide +kernel
theorem dX3_tryOn_45 : decode cX3_tryOn 45 = .ok (.aload_n 0, 1) := by decide +kernel
theorem dX3_tryOn_46 : decode cX3_tryOn 46 = .ok (.invokevirtual 38, 3) := by decide +kernel
theorem dX3_tryOn_49 : decode cX3_tryOn 49 = .ok (.ifCond .ne 13, 3) := by decide +kernel
theorem dX3_tryOn_52 : decode cX3_tryOn 52 = .ok (.aload_n 0, 1) := by decide +kernel
theorem dX3_tryOn_53 : decode cX3_tryOn 53 = .ok (.iload 4, 2) := by decide +kernel
theorem dX3_tryOn_55 : decode cX3_tryOn 55 = .ok (.iconst 1, 1) := by decide +kernel
theorem dX3_tryOn_56 : decode cX3_tryOn 56 = .ok (.bipush (-4), 2) := by decide +kernel
theorem dX3_tryOn_58 : decode cX3_tryOn 58 = .ok (.invokevirtual 42, 3) := by decide +kernel
theorem dX3_tryOn_61 : decode cX3_tryOn 61 = .ok (.return_, 1) := by decide +kernel
theorem dX3_tryOn_62 : decode cX3_tryOn 62 = .ok (.aload_n 0, 1) := by decide +kernel
theorem dX3_tryOn_63 : decode cX3_tryOn 63 = .ok (.aload_n 1, 1) := by decide +kernel
theorem dX3_tryOn_64 : decode cX3_tryOn 64 = .ok (.invokevirtual 46, 3) := by decide +kernel
theorem dX3_tryOn_67 : decode cX3_tryOn 67 = .ok (.istore 5, 2) := by decide +kernel
theorem dX3_tryOn_69 : decode cX3_tryOn 69 = .ok (.iload 5, 2) := by decide +kernel
theorem dX3_tryOn_71 : decode cX3_tryOn 71 = .ok (.ifCond .ge 13, 3) := by decide +kernel
theorem dX3_tryOn_74 : decode cX3_tryOn 74 = .ok (.aload_n 0, 1) := by decide +kernel
theorem dX3_tryOn_75 : decode cX3_tryOn 75 = .ok (.iload 4, 2) := by decide +kernel
theorem dX3_tryOn_77 : decode cX3_tryOn 77 = .ok (.iconst 2, 1) := by decide +kernel
theorem dX3_tryOn_78 : decode cX3_tryOn 78 = .ok (.iload 5, 2) := by decide +kernel
theorem dX3_tryOn_80 : decode cX3_tryOn 80 = .ok (.invokevirtual 42, 3) := by decide +kernel
theorem dX3_tryOn_83 : decode cX3_tryOn 83 = .ok (.return_, 1) := by decide +kernel
theorem dX3_tryOn_84 : decode cX3_tryOn 84 = .ok (.aload_n 0, 1) := by decide +kernel
theorem dX3_tryOn_85 : decode cX3_tryOn 85 = .ok (.dup, 1) := by decide +kernel
theorem dX3_tryOn_86 : decode cX3_tryOn 86 = .ok (.getfield 32, 3) := by decide +kernel
theorem dX3_tryOn_89 : decode cX3_tryOn 89 = .ok (.iconst 1, 1) := by decide +kernel
theorem dX3_tryOn_90 : decode cX3_tryOn 90 = .ok (.iadd, 1) := by decide +kernel
theorem dX3_tryOn_91 : decode cX3_tryOn 91 = .ok (.putfield 32, 3) := by decide +kernel
theorem dX3_tryOn_94 : decode cX3_tryOn 94 = .ok (.iinc 3 1, 3) := by decide +kernel
theorem dX3_tryOn_97 : decode cX3_tryOn 97 = .ok (.goto (-75), 3) := by decide +kernel
theorem dX3_tryOn_100 : decode cX3_tryOn 100 = .ok (.return_, 1) := by decide +kernel
theorem dX3_noteFault_0 : decode cX3_noteFault 0 = .ok (.aload_n 0, 1) := by decide +kernel
theorem dX3_noteFault_1 : decode cX3_noteFault 1 = .ok (.iload_n 1, 1) := by decide +kernel
theorem dX3_noteFault_2 : decode cX3_noteFault 2 = .ok (.putfield 50, 3) := by decide +kernel
theorem dX3_noteFault_5 : decode cX3_noteFault 5 = .ok (.aload_n 0, 1) := by decide +kernel
theorem dX3_noteFault_6 : decode cX3_noteFault 6 = .ok (.iload_n 2, 1) := by decide +kernel
theorem dX3_noteFault_7 : decode cX3_noteFault 7 = .ok (.putfield 29, 3) := by decide +kernel
theorem dX3_noteFault_10 : decode cX3_noteFault 10 = .ok (.aload_n 0, 1) := by decide +kernel
theorem dX3_noteFault_11 : decode cX3_noteFault 11 = .ok (.iload_n 3, 1) := by decide +kernel
theorem dX3_noteFault_12 : decode cX3_noteFault 12 = .ok (.putfield 53, 3) := by decide +kernel
theorem dX3_noteFault_15 : decode cX3_noteFault 15 = .ok (.return_, 1) := by decide +kernel
theorem dX3_readOrder_0 : decode cX3_readOrder 0 = .ok (.aload_n 0, 1) := by decide +kernel
theorem dX3_readOrder_1 : decode cX3_readOrder 1 = .ok (.aload_n 0, 1) := by decide +kernel
theorem dX3_readOrder_2 : decode cX3_readOrder 2 = .ok (.getfield 19, 3) := by decide +kernel
theorem dX3_readOrder_5 : decode cX3_readOrder 5 = .ok (.aload_n 0, 1) := by decide +kernel
theorem dX3_readOrder_6 : decode cX3_readOrder 6 = .ok (.getfield 35, 3) := by decide +kernel
theorem dX3_readOrder_9 : decode cX3_readOrder 9 = .ok (.caload, 1) := by decide +kernel
theorem dX3_readOrder_10 : decode cX3_readOrder 10 = .ok (.putfield 56, 3) := by decide +kernel
theorem dX3_readOrder_13 : decode cX3_readOrder 13 = .ok (.aload_n 0, 1) := by decide +kernel
theorem dX3_readOrder_14 : decode cX3_readOrder 14 = .ok (.dup, 1) := by decide +kernel
theorem dX3_readOrder_15 : decode cX3_readOrder 15 = .ok (.getfield 35, 3) := by decide +kernel
theorem dX3_readOrder_18 : decode cX3_readOrder 18 = .ok (.iconst 1, 1) := by decide +kernel
theorem dX3_readOrder_19 : decode cX3_readOrder 19 = .ok (.iadd, 1) := by decide +kernel
theorem dX3_readOrder_20 : decode cX3_readOrder 20 = .ok (.putfield 35, 3) := by decide +kernel
theorem dX3_readOrder_23 : decode cX3_readOrder 23 = .ok (.aload_n 0, 1) := by decide +kernel
theorem dX3_readOrder_24 : decode cX3_readOrder 24 = .ok (.getfield 56, 3) := by decide +kernel
theorem dX3_readOrder_27 : decode cX3_readOrder 27 = .ok (.invokestatic 60, 3) := by decide +kernel
theorem dX3_readOrder_30 : decode cX3_readOrder 30 = .ok (.istore_n 1, 1) := by decide +kernel
theorem dX3_readOrder_31 : decode cX3_readOrder 31 = .ok (.iconst 0, 1) := by decide +kernel
theorem dX3_readOrder_32 : decode cX3_readOrder 32 = .ok (.istore_n 2, 1) := by decide +kernel
theorem dX3_readOrder_33 : decode cX3_readOrder 33 = .ok (.iload_n 2, 1) := by decide +kernel
theorem dX3_readOrder_34 : decode cX3_readOrder 34 = .ok (.iload_n 1, 1) := by decide +kernel
theorem dX3_readOrder_35 : decode cX3_readOrder 35 = .ok (.if_icmp .ge 34, 3) := by decide +kernel
theorem dX3_readOrder_38 : decode cX3_readOrder 38 = .ok (.iload_n 2, 1) := by decide +kernel
theorem dX3_readOrder_39 : decode cX3_readOrder 39 = .ok (.ifCond .le 14, 3) := by decide +kernel
theorem dX3_readOrder_42 : decode cX3_readOrder 42 = .ok (.aload_n 0, 1) := by decide +kernel
theorem dX3_readOrder_43 : decode cX3_readOrder 43 = .ok (.bipush 44, 2) := by decide +kernel
theorem dX3_readOrder_45 : decode cX3_readOrder 45 = .ok (.invokevirtual 64, 3) := by decide +kernel
theorem dX3_readOrder_48 : decode cX3_readOrder 48 = .ok (.ifCond .ne 5, 3) := by decide +kernel
theorem dX3_readOrder_51 : decode cX3_readOrder 51 = .ok (.iconst 0, 1) := by decide +kernel
theorem dX3_readOrder_52 : decode cX3_readOrder 52 = .ok (.ireturn, 1) := by decide +kernel
theorem dX3_readOrder_53 : decode cX3_readOrder 53 = .ok (.aload_n 0, 1) := by decide +kernel
theorem dX3_readOrder_54 : decode cX3_readOrder 54 = .ok (.iload_n 2, 1) := by decide +kernel
theorem dX3_readOrder_55 : decode cX3_readOrder 55 = .ok (.invokevirtual 68, 3) := by decide +kernel
theorem dX3_readOrder_58 : decode cX3_readOrder 58 = .ok (.ifCond .ne 5, 3) := by decide +kernel
theorem dX3_readOrder_61 : decode cX3_readOrder 61 = .ok (.iconst 0, 1) := by decide +kernel
theorem dX3_readOrder_62 : decode cX3_readOrder 62 = .ok (.ireturn, 1) := by decide +kernel
theorem dX3_readOrder_63 : decode cX3_readOrder 63 = .ok (.iinc 2 1, 3) := by decide +kernel
theorem dX3_readOrder_66 : decode cX3_readOrder 66 = .ok (.goto (-33), 3) := by decide +kernel
theorem dX3_readOrder_69 : decode cX3_readOrder 69 = .ok (.iload_n 1, 1) := by decide +kernel
theorem dX3_readOrder_70 : decode cX3_readOrder 70 = .ok (.ifCond .le 16, 3) := by decide +kernel
theorem dX3_readOrder_73 : decode cX3_readOrder 73 = .ok (.aload_n 0, 1) := by decide +kernel
theorem dX3_readOrder_74 : decode cX3_readOrder 74 = .ok (.bipush 59, 2) := by decide +kernel
theorem dX3_readOrder_76 : decode cX3_readOrder 76 = .ok (.invokevirtual 64, 3) := by decide +kernel
theorem dX3_readOrder_79 : decode cX3_readOrder 79 = .ok (.ifCond .eq 7, 3) := by decide +kernel
theorem dX3_readOrder_82 : decode cX3_readOrder 82 = .ok (.iconst 1, 1) := by decide +kernel
theorem dX3_readOrder_83 : decode cX3_readOrder 83 = .ok (.goto 4, 3) := by decide +kernel
theorem dX3_readOrder_86 : decode cX3_readOrder 86 = .ok (.iconst 0, 1) := by decide +kernel
theorem dX3_readOrder_87 : decode cX3_readOrder 87 = .ok (.ireturn, 1) := by decide +kernel
theorem dX3_numbersOf_0 : decode cX3_numbersOf 0 = .ok (.iload_n 0, 1) := by decide +kernel
theorem dX3_numbersOf_1 : decode cX3_numbersOf 1 = .ok (.tableswitch 121 98 122 #[119, 115, 115, 121, 121, 121, 121, 121, 121, 121, 121, 121, 121, 121, 121, 121, 117, 121, 115, 117, 121, 121, 121, 121, 115], 115) := by decide +kernel
theorem dX3_numbersOf_116 : decode cX3_numbersOf 116 = .ok (.iconst 1, 1) := by decide +kernel
theorem dX3_numbersOf_117 : decode cX3_numbersOf 117 = .ok (.ireturn, 1) := by decide +kernel
theorem dX3_numbersOf_118 : decode cX3_numbersOf 118 = .ok (.iconst 3, 1) := by decide +kernel
theorem dX3_numbersOf_119 : decode cX3_numbersOf 119 = .ok (.ireturn, 1) := by decide +kernel
theorem dX3_numbersOf_120 : decode cX3_numbersOf 120 = .ok (.iconst 4, 1) := by decide +kernel
theorem dX3_numbersOf_121 : decode cX3_numbersOf 121 = .ok (.ireturn, 1) := by decide +kernel
theorem dX3_numbersOf_122 : decode cX3_numbersOf 122 = .ok (.iconst 0, 1) := by decide +kernel
theorem dX3_numbersOf_123 : decode cX3_numbersOf 123 = .ok (.ireturn, 1) := by decide +kernel
theorem dX3_readSign_0 : decode cX3_readSign 0 = .ok (.aload_n 0, 1) := by decide +kernel
theorem dX3_readSign_1 : decode cX3_readSign 1 = .ok (.getfield 35, 3) := by decide +kernel
theorem dX3_readSign_4 : decode cX3_readSign 4 = .ok (.aload_n 0, 1) := by decide +kernel
theorem dX3_readSign_5 : decode cX3_readSign 5 = .ok (.getfield 9, 3) := by decide +kernel
theorem dX3_readSign_8 : decode cX3_readSign 8 = .ok (.if_icmp .ge 16, 3) := by decide +kernel
theorem dX3_readSign_11 : decode cX3_readSign 11 = .ok (.aload_n 0, 1) := by decide +kernel
theorem dX3_readSign_12 : decode cX3_readSign 12 = .ok (.getfield 19, 3) := by decide +kernel
theorem dX3_readSign_15 : decode cX3_readSign 15 = .ok (.aload_n 0, 1) := by decide +kernel
theorem dX3_readSign_16 : decode cX3_readSign 16 = .ok (.getfield 35, 3) := by decide +kernel
theorem dX3_readSign_19 : decode cX3_readSign 19 = .ok (.caload, 1) := by decide +kernel
theorem dX3_readSign_20 : decode cX3_readSign 20 = .ok (.iload_n 1, 1) := by decide +kernel
theorem dX3_readSign_21 : decode cX3_readSign 21 = .ok (.if_icmp .eq 5, 3) := by decide +kernel
theorem dX3_readSign_24 : decode cX3_readSign 24 = .ok (.iconst 0, 1) := by decide +kernel
theorem dX3_readSign_25 : decode cX3_readSign 25 = .ok (.ireturn, 1) := by decide +kernel
theorem dX3_readSign_26 : decode cX3_readSign 26 = .ok (.aload_n 0, 1) := by decide +kernel
theorem dX3_readSign_27 : decode cX3_readSign 27 = .ok (.dup, 1) := by decide +kernel
theorem dX3_readSign_28 : decode cX3_readSign 28 = .ok (.getfield 35, 3) := by decide +kernel
theorem dX3_readSign_31 : decode cX3_readSign 31 = .ok (.iconst 1, 1) := by decide +kernel
theorem dX3_readSign_32 : decode cX3_readSign 32 = .ok (.iadd, 1) := by decide +kernel
theorem dX3_readSign_33 : decode cX3_readSign 33 = .ok (.putfield 35, 3) := by decide +kernel
theorem dX3_readSign_36 : decode cX3_readSign 36 = .ok (.iconst 1, 1) := by decide +kernel
theorem dX3_readSign_37 : decode cX3_readSign 37 = .ok (.ireturn, 1) := by decide +kernel
theorem dX3_readNumber_0 : decode cX3_readNumber 0 = .ok (.iconst 0, 1) := by decide +kernel
theorem dX3_readNumber_1 : decode cX3_readNumber 1 = .ok (.istore_n 2, 1) := by decide +kernel
theorem dX3_readNumber_2 : decode cX3_readNumber 2 = .ok (.iconst 0, 1) := by decide +kernel
theorem dX3_readNumber_3 : decode cX3_readNumber 3 = .ok (.istore_n 3, 1) := by decide +kernel
theorem dX3_readNumber_4 : decode cX3_readNumber 4 = .ok (.iload_n 3, 1) := by decide +kernel
theorem dX3_readNumber_5 : decode cX3_readNumber 5 = .ok (.iconst 4, 1) := by decide +kernel
theorem dX3_readNumber_6 : decode cX3_readNumber 6 = .ok (.if_icmp .ge 76, 3) := by decide +kernel
theorem dX3_readNumber_9 : decode cX3_readNumber 9 = .ok (.aload_n 0, 1) := by decide +kernel
theorem dX3_readNumber_10 : decode cX3_readNumber 10 = .ok (.getfield 35, 3) := by decide +kernel
theorem dX3_readNumber_13 : decode cX3_readNumber 13 = .ok (.aload_n 0, 1) := by decide +kernel
theorem dX3_readNumber_14 : decode cX3_readNumber 14 = .ok (.getfield 9, 3) := by decide +kernel
theorem dX3_readNumber_17 : decode cX3_readNumber 17 = .ok (.if_icmp .ge 65, 3) := by decide +kernel
theorem dX3_readNumber_20 : decode cX3_readNumber 20 = .ok (.aload_n 0, 1) := by decide +kernel
theorem dX3_readNumber_21 : decode cX3_readNumber 21 = .ok (.getfield 19, 3) := by decide +kernel
theorem dX3_readNumber_24 : decode cX3_readNumber 24 = .ok (.aload_n 0, 1) := by decide +kernel
theorem dX3_readNumber_25 : decode cX3_readNumber 25 = .ok (.getfield 35, 3) := by decide +kernel
theorem dX3_readNumber_28 : decode cX3_readNumber 28 = .ok (.caload, 1) := by decide +kernel
theorem dX3_readNumber_29 : decode cX3_readNumber 29 = .ok (.bipush 48, 2) := by decide +kernel
theorem dX3_readNumber_31 : decode cX3_readNumber 31 = .ok (.if_icmp .lt 51, 3) := by decide +kernel
theorem dX3_readNumber_34 : decode cX3_readNumber 34 = .ok (.aload_n 0, 1) := by decide +kernel
theorem dX3_readNumber_35 : decode cX3_readNumber 35 = .ok (.getfield 19, 3) := by decide +kernel
theorem dX3_readNumber_38 : decode cX3_readNumber 38 = .ok (.aload_n 0, 1) := by decide +kernel
theorem dX3_readNumber_39 : decode cX3_readNumber 39 = .ok (.getfield 35, 3) := by decide +kernel
theorem dX3_readNumber_42 : decode cX3_readNumber 42 = .ok (.caload, 1) := by decide +kernel
theorem dX3_readNumber_43 : decode cX3_readNumber 43 = .ok (.bipush 57, 2) := by decide +kernel
theorem dX3_readNumber_45 : decode cX3_readNumber 45 = .ok (.if_icmp .gt 37, 3) := by decide +kernel
theorem dX3_readNumber_48 : decode cX3_readNumber 48 = .ok (.iload_n 2, 1) := by decide +kernel
theorem dX3_readNumber_49 : decode cX3_readNumber 49 = .ok (.bipush 10, 2) := by decide +kernel
theorem dX3_readNumber_51 : decode cX3_readNumber 51 = .ok (.imul, 1) := by decide +kernel
theorem dX3_readNumber_52 : decode cX3_readNumber 52 = .ok (.aload_n 0, 1) := by decide +kernel
theorem dX3_readNumber_53 : decode cX3_readNumber 53 = .ok (.getfield 19, 3) := by decide +kernel
theorem dX3_readNumber_56 : decode cX3_readNumber 56 = .ok (.aload_n 0, 1) := by decide +kernel
theorem dX3_readNumber_57 : decode cX3_readNumber 57 = .ok (.getfield 35, 3) := by decide +kernel
theorem dX3_readNumber_60 : decode cX3_readNumber 60 = .ok (.caload, 1) := by decide +kernel
theorem dX3_readNumber_61 : decode cX3_readNumber 61 = .ok (.iadd, 1) := by decide +kernel
theorem dX3_readNumber_62 : decode cX3_readNumber 62 = .ok (.bipush 48, 2) := by decide +kernel
theorem dX3_readNumber_64 : decode cX3_readNumber 64 = .ok (.isub, 1) := by decide +kernel
theorem dX3_readNumber_65 : decode cX3_readNumber 65 = .ok (.istore_n 2, 1) := by decide +kernel
theorem dX3_readNumber_66 : decode cX3_readNumber 66 = .ok (.aload_n 0, 1) := by decide +kernel
theorem dX3_readNumber_67 : decode cX3_readNumber 67 = .ok (.dup, 1) := by decide +kernel
theorem dX3_readNumber_68 : decode cX3_readNumber 68 = .ok (.getfield 35, 3) := by decide +kernel
theorem dX3_readNumber_71 : decode cX3_readNumber 71 = .ok (.iconst 1, 1) := by decide +kernel
theorem dX3_readNumber_72 : decode cX3_readNumber 72 = .ok (.iadd, 1) := by decide +kernel
theorem dX3_readNumber_73 : decode cX3_readNumber 73 = .ok (.putfield 35, 3) := by decide +kernel
theorem dX3_readNumber_76 : decode cX3_readNumber 76 = .ok (.iinc 3 1, 3) := by decide +kernel
theorem dX3_readNumber_79 : decode cX3_readNumber 79 = .ok (.goto (-75), 3) := by decide +kernel
theorem dX3_readNumber_82 : decode cX3_readNumber 82 = .ok (.aload_n 0, 1) := by decide +kernel
theorem dX3_readNumber_83 : decode cX3_readNumber 83 = .ok (.getfield 15, 3) := by decide +kernel
theorem dX3_readNumber_86 : decode cX3_readNumber 86 = .ok (.iload_n 1, 1) := by decide +kernel
theorem dX3_readNumber_87 : decode cX3_readNumber 87 = .ok (.iload_n 2, 1) := by decide +kernel
theorem dX3_readNumber_88 : decode cX3_readNumber 88 = .ok (.iastore, 1) := by decide +kernel
theorem dX3_readNumber_89 : decode cX3_readNumber 89 = .ok (.iload_n 3, 1) := by decide +kernel
theorem dX3_readNumber_90 : decode cX3_readNumber 90 = .ok (.ifCond .le 7, 3) := by decide +kernel
theorem dX3_readNumber_93 : decode cX3_readNumber 93 = .ok (.iconst 1, 1) := by decide +kernel
theorem dX3_readNumber_94 : decode cX3_readNumber 94 = .ok (.goto 4, 3) := by decide +kernel
theorem dX3_readNumber_97 : decode cX3_readNumber 97 = .ok (.iconst 0, 1) := by decide +kernel
theorem dX3_readNumber_98 : decode cX3_readNumber 98 = .ok (.ireturn, 1) := by decide +kernel
theorem dX3_doOrder_0 : decode cX3_doOrder 0 = .ok (.aload_n 0, 1) := by decide +kernel
theorem dX3_doOrder_1 : decode cX3_doOrder 1 = .ok (.getfield 56, 3) := by decide +kernel
theorem dX3_doOrder_4 : decode cX3_doOrder 4 = .ok (.lookupswitch 168 #[(98, 117), (99, 157), (114, 94), (116, 146), (117, 71), (122, 60)], 60) := by decide +kernel
theorem dX3_doOrder_64 : decode cX3_doOrder 64 = .ok (.aload_n 1, 1) := by decide +kernel
theorem dX3_doOrder_65 : decode cX3_doOrder 65 = .ok (.aload_n 0, 1) := by decide +kernel
theorem dX3_doOrder_66 : decode cX3_doOrder 66 = .ok (.getfield 15, 3) := by decide +kernel
theorem dX3_doOrder_69 : decode cX3_doOrder 69 = .ok (.iconst 0, 1) := by decide +kernel
theorem dX3_doOrder_70 : decode cX3_doOrder 70 = .ok (.iaload, 1) := by decide +kernel
theorem dX3_doOrder_71 : decode cX3_doOrder 71 = .ok (.invokevirtual 72, 3) := by decide +kernel
theorem dX3_doOrder_74 : decode cX3_doOrder 74 = .ok (.ireturn, 1) := by decide +kernel
theorem dX3_doOrder_75 : decode cX3_doOrder 75 = .ok (.aload_n 1, 1) := by decide +kernel
theorem dX3_doOrder_76 : decode cX3_doOrder 76 = .ok (.aload_n 0, 1) := by decide +kernel
theorem dX3_doOrder_77 : decode cX3_doOrder 77 = .ok (.getfield 15, 3) := by decide +kernel
theorem dX3_doOrder_80 : decode cX3_doOrder 80 = .ok (.iconst 0, 1) := by decide +kernel
theorem dX3_doOrder_81 : decode cX3_doOrder 81 = .ok (.iaload, 1) := by decide +kernel
theorem dX3_doOrder_82 : decode cX3_doOrder 82 = .ok (.aload_n 0, 1) := by decide +kernel
theorem dX3_doOrder_83 : decode cX3_doOrder 83 = .ok (.getfield 15, 3) := by decide +kernel
theorem dX3_doOrder_86 : decode cX3_doOrder 86 = .ok (.iconst 1, 1) := by decide +kernel
theorem dX3_doOrder_87 : decode cX3_doOrder 87 = .ok (.iaload, 1) := by decide +kernel
theorem dX3_doOrder_88 : decode cX3_doOrder 88 = .ok (.aload_n 0, 1) := by decide +kernel
theorem dX3_doOrder_89 : decode cX3_doOrder 89 = .ok (.getfield 15, 3) := by decide +kernel
theorem dX3_doOrder_92 : decode cX3_doOrder 92 = .ok (.iconst 2, 1) := by decide +kernel
theorem dX3_doOrder_93 : decode cX3_doOrder 93 = .ok (.iaload, 1) := by decide +kernel
theorem dX3_doOrder_94 : decode cX3_doOrder 94 = .ok (.invokevirtual 76, 3) := by decide +kernel
theorem dX3_doOrder_97 : decode cX3_doOrder 97 = .ok (.ireturn, 1) := by decide +kernel
theorem dX3_doOrder_98 : decode cX3_doOrder 98 = .ok (.aload_n 1, 1) := by decide +kernel
theorem dX3_doOrder_99 : decode cX3_doOrder 99 = .ok (.aload_n 0, 1) := by decide +kernel
theorem dX3_doOrder_100 : decode cX3_doOrder 100 = .ok (.getfield 15, 3) := by decide +kernel
theorem dX3_doOrder_103 : decode cX3_doOrder 103 = .ok (.iconst 0, 1) := by decide +kernel
theorem dX3_doOrder_104 : decode cX3_doOrder 104 = .ok (.iaload, 1) := by decide +kernel
theorem dX3_doOrder_105 : decode cX3_doOrder 105 = .ok (.aload_n 0, 1) := by decide +kernel
theorem dX3_doOrder_106 : decode cX3_doOrder 106 = .ok (.getfield 15, 3) := by decide +kernel
theorem dX3_doOrder_109 : decode cX3_doOrder 109 = .ok (.iconst 1, 1) := by decide +kernel
theorem dX3_doOrder_110 : decode cX3_doOrder 110 = .ok (.iaload, 1) := by decide +kernel
theorem dX3_doOrder_111 : decode cX3_doOrder 111 = .ok (.aload_n 0, 1) := by decide +kernel
theorem dX3_doOrder_112 : decode cX3_doOrder 112 = .ok (.getfield 15, 3) := by decide +kernel
theorem dX3_doOrder_115 : decode cX3_doOrder 115 = .ok (.iconst 2, 1) := by decide +kernel
theorem dX3_doOrder_116 : decode cX3_doOrder 116 = .ok (.iaload, 1) := by decide +kernel
theorem dX3_doOrder_117 : decode cX3_doOrder 117 = .ok (.invokevirtual 80, 3) := by decide +kernel
theorem dX3_doOrder_120 : decode cX3_doOrder 120 = .ok (.ireturn, 1) := by decide +kernel
theorem dX3_doOrder_121 : decode cX3_doOrder 121 = .ok (.aload_n 1, 1) := by decide +kernel
theorem dX3_doOrder_122 : decode cX3_doOrder 122 = .ok (.aload_n 0, 1) := by decide +kernel
theorem dX3_doOrder_123 : decode cX3_doOrder 123 = .ok (.getfield 15, 3) := by decide +kernel
theorem dX3_doOrder_126 : decode cX3_doOrder 126 = .ok (.iconst 0, 1) := by decide +kernel
theorem dX3_doOrder_127 : decode cX3_doOrder 127 = .ok (.iaload, 1) := by decide +kernel
theorem dX3_doOrder_128 : decode cX3_doOrder 128 = .ok (.aload_n 0, 1) := by decide +kernel
theorem dX3_doOrder_129 : decode cX3_doOrder 129 = .ok (.getfield 15, 3) := by decide +kernel
theorem dX3_doOrder_132 : decode cX3_doOrder 132 = .ok (.iconst 1, 1) := by decide +kernel
theorem dX3_doOrder_133 : decode cX3_doOrder 133 = .ok (.iaload, 1) := by decide +kernel
theorem dX3_doOrder_134 : decode cX3_doOrder 134 = .ok (.aload_n 0, 1) := by decide +kernel
theorem dX3_doOrder_135 : decode cX3_doOrder 135 = .ok (.getfield 15, 3) := by decide +kernel
theorem dX3_doOrder_138 : decode cX3_doOrder 138 = .ok (.iconst 2, 1) := by decide +kernel
theorem dX3_doOrder_139 : decode cX3_doOrder 139 = .ok (.iaload, 1) := by decide +kernel
theorem dX3_doOrder_140 : decode cX3_doOrder 140 = .ok (.aload_n 0, 1) := by decide +kernel
theorem dX3_doOrder_141 : decode cX3_doOrder 141 = .ok (.getfield 15, 3) := by decide +kernel
theorem dX3_doOrder_144 : decode cX3_doOrder 144 = .ok (.iconst 3, 1) := by decide +kernel
theorem dX3_doOrder_145 : decode cX3_doOrder 145 = .ok (.iaload, 1) := by decide +kernel
theorem dX3_doOrder_146 : decode cX3_doOrder 146 = .ok (.invokevirtual 83, 3) := by decide +kernel
theorem dX3_doOrder_149 : decode cX3_doOrder 149 = .ok (.ireturn, 1) := by decide +kernel
theorem dX3_doOrder_150 : decode cX3_doOrder 150 = .ok (.aload_n 1, 1) := by decide +kernel
theorem dX3_doOrder_151 : decode cX3_doOrder 151 = .ok (.aload_n 0, 1) := by decide +kernel
theorem dX3_doOrder_152 : decode cX3_doOrder 152 = .ok (.getfield 15, 3) := by decide +kernel
theorem dX3_doOrder_155 : decode cX3_doOrder 155 = .ok (.iconst 0, 1) := by decide +kernel
theorem dX3_doOrder_156 : decode cX3_doOrder 156 = .ok (.iaload, 1) := by decide +kernel
theorem dX3_doOrder_157 : decode cX3_doOrder 157 = .ok (.invokevirtual 87, 3) := by decide +kernel
theorem dX3_doOrder_160 : decode cX3_doOrder 160 = .ok (.ireturn, 1) := by decide +kernel
theorem dX3_doOrder_161 : decode cX3_doOrder 161 = .ok (.aload_n 1, 1) := by decide +kernel
theorem dX3_doOrder_162 : decode cX3_doOrder 162 = .ok (.aload_n 0, 1) := by decide +kernel
theorem dX3_doOrder_163 : decode cX3_doOrder 163 = .ok (.getfield 15, 3) := by decide +kernel
theorem dX3_doOrder_166 : decode cX3_doOrder 166 = .ok (.iconst 0, 1) := by decide +kernel
theorem dX3_doOrder_167 : decode cX3_doOrder 167 = .ok (.iaload, 1) := by decide +kernel
theorem dX3_doOrder_168 : decode cX3_doOrder 168 = .ok (.invokevirtual 90, 3) := by decide +kernel
theorem dX3_doOrder_171 : decode cX3_doOrder 171 = .ok (.ireturn, 1) := by decide +kernel
theorem dX3_doOrder_172 : decode cX3_doOrder 172 = .ok (.aload_n 1, 1) := by decide +kernel
theorem dX3_doOrder_173 : decode cX3_doOrder 173 = .ok (.aload_n 0, 1) := by decide +kernel
theorem dX3_doOrder_174 : decode cX3_doOrder 174 = .ok (.getfield 15, 3) := by decide +kernel
theorem dX3_doOrder_177 : decode cX3_doOrder 177 = .ok (.iconst 0, 1) := by decide +kernel
theorem dX3_doOrder_178 : decode cX3_doOrder 178 = .ok (.iaload, 1) := by decide +kernel
theorem dX3_doOrder_179 : decode cX3_doOrder 179 = .ok (.invokevirtual 93, 3) := by decide +kernel
theorem dX3_doOrder_182 : decode cX3_doOrder 182 = .ok (.ireturn, 1) := by decide +kernel
theorem dX4_init_0 : decode cX4_init 0 = .ok (.aload_n 0, 1) := by decide +kernel
theorem dX4_init_1 : decode cX4_init 1 = .ok (.invokespecial 3, 3) := by decide +kernel
theorem dX4_init_4 : decode cX4_init 4 = .ok (.aload_n 0, 1) := by decide +kernel
theorem dX4_init_5 : decode cX4_init 5 = .ok (.lconst 0, 1) := by decide +kernel
theorem dX4_init_6 : decode cX4_init 6 = .ok (.putfield 9, 3) := by decide +kernel
theorem dX4_init_9 : decode cX4_init 9 = .ok (.aload_n 0, 1) := by decide +kernel
theorem dX4_init_10 : decode cX4_init 10 = .ok (.bipush 32, 2) := by decide +kernel
theorem dX4_init_12 : decode cX4_init 12 = .ok (.newarray .int, 2) := by decide +kernel
theorem dX4_init_14 : decode cX4_init 14 = .ok (.putfield 15, 3) := by decide +kernel
theorem dX4_init_17 : decode cX4_init 17 = .ok (.aload_n 0, 1) := by decide +kernel
theorem dX4_init_18 : decode cX4_init 18 = .ok (.iconst 4, 1) := by decide +kernel
theorem dX4_init_19 : decode cX4_init 19 = .ok (.newarray .long, 2) := by decide +kernel
theorem dX4_init_21 : decode cX4_init 21 = .ok (.putfield 19, 3) := by decide +kernel
theorem dX4_init_24 : decode cX4_init 24 = .ok (.return_, 1) := by decide +kernel
theorem dX4_become_0 : decode cX4_become 0 = .ok (.aload_n 0, 1) := by decide +kernel
theorem dX4_become_1 : decode cX4_become 1 = .ok (.aload_n 1, 1) := by decide +kernel
theorem dX4_become_2 : decode cX4_become 2 = .ok (.getfield 9, 3) := by decide +kernel
theorem dX4_become_5 : decode cX4_become 5 = .ok (.putfield 9, 3) := by decide +kernel
theorem dX4_become_8 : decode cX4_become 8 = .ok (.aload_n 1, 1) := by decide +kernel
theorem dX4_become_9 : decode cX4_become 9 = .ok (.getfield 15, 3) := by decide +kernel
theorem dX4_become_12 : decode cX4_become 12 = .ok (.iconst 0, 1) := by decide +kernel
theorem dX4_become_13 : decode cX4_become 13 = .ok (.aload_n 0, 1) := by decide +kernel
theorem dX4_become_14 : decode cX4_become 14 = .ok (.getfield 15, 3) := by decide +kernel
theorem dX4_become_17 : decode cX4_become 17 = .ok (.iconst 0, 1) := by decide +kernel
theorem dX4_become_18 : decode cX4_become 18 = .ok (.bipush 32, 2) := by decide +kernel
theorem dX4_become_20 : decode cX4_become 20 = .ok (.invokestatic 23, 3) := by decide +kernel
theorem dX4_become_23 : decode cX4_become 23 = .ok (.aload_n 1, 1) := by decide +kernel
theorem dX4_become_24 : decode cX4_become 24 = .ok (.getfield 19, 3) := by decide +kernel
theorem dX4_become_27 : decode cX4_become 27 = .ok (.iconst 0, 1) := by decide +kernel
theorem dX4_become_28 : decode cX4_become 28 = .ok (.aload_n 0, 1) := by decide +kernel
theorem dX4_become_29 : decode cX4_become 29 = .ok (.getfield 19, 3) := by decide +kernel
theorem dX4_become_32 : decode cX4_become 32 = .ok (.iconst 0, 1) := by decide +kernel
theorem dX4_become_33 : decode cX4_become 33 = .ok (.iconst 4, 1) := by decide +kernel
theorem dX4_become_34 : decode cX4_become 34 = .ok (.invokestatic 23, 3) := by decide +kernel
theorem dX4_become_37 : decode cX4_become 37 = .ok (.return_, 1) := by decide +kernel
theorem dX4_place_0 : decode cX4_place 0 = .ok (.iload_n 1, 1) := by decide +kernel
theorem dX4_place_1 : decode cX4_place 1 = .ok (.iconst 4, 1) := by decide +kernel
theorem dX4_place_2 : decode cX4_place 2 = .ok (.imul, 1) := by decide +kernel
theorem dX4_place_3 : decode cX4_place 3 = .ok (.iload_n 2, 1) := by decide +kernel
theorem dX4_place_4 : decode cX4_place 4 = .ok (.iadd, 1) := by decide +kernel
theorem dX4_place_5 : decode cX4_place 5 = .ok (.ireturn, 1) := by decide +kernel
theorem dX4_add_0 : decode cX4_add 0 = .ok (.aload_n 0, 1) := by decide +kernel
theorem dX4_add_1 : decode cX4_add 1 = .ok (.getfield 15, 3) := by decide +kernel
theorem dX4_add_4 : decode cX4_add 4 = .ok (.aload_n 0, 1) := by decide +kernel
theorem dX4_add_5 : decode cX4_add 5 = .ok (.iload_n 1, 1) := by decide +kernel
theorem dX4_add_6 : decode cX4_add 6 = .ok (.iload_n 2, 1) := by decide +kernel
theorem dX4_add_7 : decode cX4_add 7 = .ok (.invokevirtual 29, 3) := by decide +kernel
theorem dX4_add_10 : decode cX4_add 10 = .ok (.dup2, 1) := by decide +kernel
theorem dX4_add_11 : decode cX4_add 11 = .ok (.iaload, 1) := by decide +kernel
theorem dX4_add_12 : decode cX4_add 12 = .ok (.iload_n 3, 1) := by decide +kernel
theorem dX4_add_13 : decode cX4_add 13 = .ok (.iadd, 1) := by decide +kernel
theorem dX4_add_14 : decode cX4_add 14 = .ok (.iastore, 1) := by decide +kernel
theorem dX4_add_15 : decode cX4_add 15 = .ok (.aload_n 0, 1) := by decide +kernel
theorem dX4_add_16 : decode cX4_add 16 = .ok (.getfield 19, 3) := by decide +kernel
theorem dX4_add_19 : decode cX4_add 19 = .ok (.iload_n 2, 1) := by decide +kernel
theorem dX4_add_20 : decode cX4_add 20 = .ok (.dup2, 1) := by decide +kernel
theorem dX4_add_21 : decode cX4_add 21 = .ok (.laload, 1) := by decide +kernel
theorem dX4_add_22 : decode cX4_add 22 = .ok (.lload 4, 2) := by decide +kernel
theorem dX4_add_24 : decode cX4_add 24 = .ok (.ladd, 1) := by decide +kernel
theorem dX4_add_25 : decode cX4_add 25 = .ok (.lastore, 1) := by decide +kernel
theorem dX4_add_26 : decode cX4_add 26 = .ok (.return_, 1) := by decide +kernel
theorem dX5_init_0 : decode cX5_init 0 = .ok (.aload_n 0, 1) := by decide +kernel
theorem dX5_init_1 : decode cX5_init 1 = .ok (.invokespecial 3, 3) := by decide +kernel
theorem dX5_init_4 : decode cX5_init 4 = .ok (.aload_n 0, 1) := by decide +kernel
theorem dX5_init_5 : decode cX5_init 5 = .ok (.iconst 0, 1) := by decide +kernel
theorem dX5_init_6 : decode cX5_init 6 = .ok (.putfield 9, 3) := by decide +kernel
theorem dX5_init_9 : decode cX5_init 9 = .ok (.aload_n 0, 1) := by decide +kernel
theorem dX5_init_10 : decode cX5_init 10 = .ok (.sipush 201, 3) := by decide +kernel
theorem dX5_init_13 : decode cX5_init 13 = .ok (.newarray .int, 2) := by decide +kernel
theorem dX5_init_15 : decode cX5_init 15 = .ok (.putfield 15, 3) := by decide +kernel
theorem dX5_init_18 : decode cX5_init 18 = .ok (.aload_n 0, 1) := by decide +kernel
theorem dX5_init_19 : decode cX5_init 19 = .ok (.sipush 201, 3) := by decide +kernel
theorem dX5_init_22 : decode cX5_init 22 = .ok (.newarray .int, 2) := by decide +kernel
theorem dX5_init_24 : decode cX5_init 24 = .ok (.putfield 19, 3) := by decide +kernel
theorem dX5_init_27 : decode cX5_init 27 = .ok (.aload_n 0, 1) := by decide +kernel
theorem dX5_init_28 : decode cX5_init 28 = .ok (.sipush 201, 3) := by decide +kernel
theorem dX5_init_31 : decode cX5_init 31 = .ok (.newarray .int, 2) := by decide +kernel
theorem dX5_init_33 : decode cX5_init 33 = .ok (.putfield 22, 3) := by decide +kernel
theorem dX5_init_36 : decode cX5_init 36 = .ok (.return_, 1) := by decide +kernel
theorem dX5_become_0 : decode cX5_become 0 = .ok (.aload_n 0, 1) := by decide +kernel
theorem dX5_become_1 : decode cX5_become 1 = .ok (.aload_n 1, 1) := by decide +kernel
theorem dX5_become_2 : decode cX5_become 2 = .ok (.getfield 9, 3) := by decide +kernel
theorem dX5_become_5 : decode cX5_become 5 = .ok (.putfield 9, 3) := by decide +kernel
theorem dX5_become_8 : decode cX5_become 8 = .ok (.aload_n 1, 1) := by decide +kernel
theorem dX5_become_9 : decode cX5_become 9 = .ok (.getfield 15, 3) := by decide +kernel
theorem dX5_become_12 : decode cX5_become 12 = .ok (.iconst 0, 1) := by decide +kernel
theorem dX5_become_13 : decode cX5_become 13 = .ok (.aload_n 0, 1) := by decide +kernel
theorem dX5_become_14 : decode cX5_become 14 = .ok (.getfield 15, 3) := by decide +kernel
theorem dX5_become_17 : decode cX5_become 17 = .ok (.iconst 0, 1) := by decide +kernel
theorem dX5_become_18 : decode cX5_become 18 = .ok (.sipush 201, 3) := by decide +kernel
theorem dX5_become_21 : decode cX5_become 21 = .ok (.invokestatic 25, 3) := by decide +kernel
theorem dX5_become_24 : decode cX5_become 24 = .ok (.aload_n 1, 1) := by decide +kernel
theorem dX5_become_25 : decode cX5_become 25 = .ok (.getfield 19, 3) := by decide +kernel
theorem dX5_become_28 : decode cX5_become 28 = .ok (.iconst 0, 1) := by decide +kernel
theorem dX5_become_29 : decode cX5_become 29 = .ok (.aload_n 0, 1) := by decide +kernel
theorem dX5_become_30 : decode cX5_become 30 = .ok (.getfield 19, 3) := by decide +kernel
theorem dX5_become_33 : decode cX5_become 33 = .ok (.iconst 0, 1) := by decide +kernel
theorem dX5_become_34 : decode cX5_become 34 = .ok (.sipush 201, 3) := by decide +kernel
theorem dX5_become_37 : decode cX5_become 37 = .ok (.invokestatic 25, 3) := by decide +kernel
theorem dX5_become_40 : decode cX5_become 40 = .ok (.aload_n 1, 1) := by decide +kernel
theorem dX5_become_41 : decode cX5_become 41 = .ok (.getfield 22, 3) := by decide +kernel
theorem dX5_become_44 : decode cX5_become 44 = .ok (.iconst 0, 1) := by decide +kernel
theorem dX5_become_45 : decode cX5_become 45 = .ok (.aload_n 0, 1) := by decide +kernel
theorem dX5_become_46 : decode cX5_become 46 = .ok (.getfield 22, 3) := by decide +kernel
theorem dX5_become_49 : decode cX5_become 49 = .ok (.iconst 0, 1) := by decide +kernel
theorem dX5_become_50 : decode cX5_become 50 = .ok (.sipush 201, 3) := by decide +kernel
theorem dX5_become_53 : decode cX5_become 53 = .ok (.invokestatic 25, 3) := by decide +kernel
theorem dX5_become_56 : decode cX5_become 56 = .ok (.return_, 1) := by decide +kernel
theorem dX5_left_0 : decode cX5_left 0 = .ok (.sipush 200, 3) := by decide +kernel
theorem dX5_left_3 : decode cX5_left 3 = .ok (.aload_n 0, 1) := by decide +kernel
theorem dX5_left_4 : decode cX5_left 4 = .ok (.getfield 9, 3) := by decide +kernel
theorem dX5_left_7 : decode cX5_left 7 = .ok (.isub, 1) := by decide +kernel
theorem dX5_left_8 : decode cX5_left 8 = .ok (.ireturn, 1) := by decide +kernel
theorem dX5_putOn_0 : decode cX5_putOn 0 = .ok (.aload_n 0, 1) := by decide +kernel
theorem dX5_putOn_1 : decode cX5_putOn 1 = .ok (.getfield 9, 3) := by decide +kernel
theorem dX5_putOn_4 : decode cX5_putOn 4 = .ok (.sipush 200, 3) := by decide +kernel
theorem dX5_putOn_7 : decode cX5_putOn 7 = .ok (.if_icmp .lt 5, 3) := by decide +kernel
theorem dX5_putOn_10 : decode cX5_putOn 10 = .ok (.iconst 0, 1) := by decide +kernel
theorem dX5_putOn_11 : decode cX5_putOn 11 = .ok (.ireturn, 1) := by decide +kernel
theorem dX5_putOn_12 : decode cX5_putOn 12 = .ok (.aload_n 0, 1) := by decide +kernel
theorem dX5_putOn_13 : decode cX5_putOn 13 = .ok (.dup, 1) := by decide +kernel
theorem dX5_putOn_14 : decode cX5_putOn 14 = .ok (.getfield 9, 3) := by decide +kernel
theorem dX5_putOn_17 : decode cX5_putOn 17 = .ok (.iconst 1, 1) := by decide +kernel
theorem dX5_putOn_18 : decode cX5_putOn 18 = .ok (.iadd, 1) := by decide +kernel
theorem dX5_putOn_19 : decode cX5_putOn 19 = .ok (.putfield 9, 3) := by decide +kernel
theorem dX5_putOn_22 : decode cX5_putOn 22 = .ok (.aload_n 0, 1) := by decide +kernel
theorem dX5_putOn_23 : decode cX5_putOn 23 = .ok (.getfield 15, 3) := by decide +kernel
theorem dX5_putOn_26 : decode cX5_putOn 26 = .ok (.aload_n 0, 1) := by decide +kernel
theorem dX5_putOn_27 : decode cX5_putOn 27 = .ok (.getfield 9, 3) := by decide +kernel
theorem dX5_putOn_30 : decode cX5_putOn 30 = .ok (.iload_n 1, 1) := by decide +kernel
theorem dX5_putOn_31 : decode cX5_putOn 31 = .ok (.iastore, 1) := by decide +kernel
theorem dX5_putOn_32 : decode cX5_putOn 32 = .ok (.aload_n 0, 1) := by decide +kernel
theorem dX5_putOn_33 : decode cX5_putOn 33 = .ok (.getfield 19, 3) := by decide +kernel
theorem dX5_putOn_36 : decode cX5_putOn 36 = .ok (.aload_n 0, 1) := by decide +kernel
theorem dX5_putOn_37 : decode cX5_putOn 37 = .ok (.getfield 9, 3) := by decide +kernel
theorem dX5_putOn_40 : decode cX5_putOn 40 = .ok (.iload_n 2, 1) := by decide +kernel
theorem dX5_putOn_41 : decode cX5_putOn 41 = .ok (.iastore, 1) := by decide +kernel
theorem dX5_putOn_42 : decode cX5_putOn 42 = .ok (.aload_n 0, 1) := by decide +kernel
theorem dX5_putOn_43 : decode cX5_putOn 43 = .ok (.getfield 22, 3) := by decide +kernel
theorem dX5_putOn_46 : decode cX5_putOn 46 = .ok (.aload_n 0, 1) := by decide +kernel
theorem dX5_putOn_47 : decode cX5_putOn 47 = .ok (.getfield 9, 3) := by decide +kernel
theorem dX5_putOn_50 : decode cX5_putOn 50 = .ok (.iconst 0, 1) := by decide +kernel
theorem dX5_putOn_51 : decode cX5_putOn 51 = .ok (.iastore, 1) := by decide +kernel
theorem dX5_putOn_52 : decode cX5_putOn 52 = .ok (.aload_n 0, 1) := by decide +kernel
theorem dX5_putOn_53 : decode cX5_putOn 53 = .ok (.getfield 9, 3) := by decide +kernel
theorem dX5_putOn_56 : decode cX5_putOn 56 = .ok (.ireturn, 1) := by decide +kernel
theorem dX5_end_0 : decode cX5_end 0 = .ok (.iload_n 1, 1) := by decide +kernel
theorem dX5_end_1 : decode cX5_end 1 = .ok (.iconst 1, 1) := by decide +kernel
theorem dX5_end_2 : decode cX5_end 2 = .ok (.if_icmp .lt 18, 3) := by decide +kernel
theorem dX5_end_5 : decode cX5_end 5 = .ok (.iload_n 1, 1) := by decide +kernel
theorem dX5_end_6 : decode cX5_end 6 = .ok (.aload_n 0, 1) := by decide +kernel
theorem dX5_end_7 : decode cX5_end 7 = .ok (.getfield 9, 3) := by decide +kernel
theorem dX5_end_10 : decode cX5_end 10 = .ok (.if_icmp .gt 10, 3) := by decide +kernel
theorem dX5_end_13 : decode cX5_end 13 = .ok (.aload_n 0, 1) := by decide +kernel
theorem dX5_end_14 : decode cX5_end 14 = .ok (.getfield 22, 3) := by decide +kernel
theorem dX5_end_17 : decode cX5_end 17 = .ok (.iload_n 1, 1) := by decide +kernel
theorem dX5_end_18 : decode cX5_end 18 = .ok (.iload_n 2, 1) := by decide +kernel
theorem dX5_end_19 : decode cX5_end 19 = .ok (.iastore, 1) := by decide +kernel
theorem dX5_end_20 : decode cX5_end 20 = .ok (.return_, 1) := by decide +kernel
theorem dX6_init_0 : decode cX6_init 0 = .ok (.aload_n 0, 1) := by decide +kernel
theorem dX6_init_1 : decode cX6_init 1 = .ok (.invokespecial 3, 3) := by decide +kernel
theorem dX6_init_4 : decode cX6_init 4 = .ok (.aload_n 0, 1) := by decide +kernel
theorem dX6_init_5 : decode cX6_init 5 = .ok (.iconst 2, 1) := by decide +kernel
theorem dX6_init_6 : decode cX6_init 6 = .ok (.putfield 9, 3) := by decide +kernel
theorem dX6_init_9 : decode cX6_init 9 = .ok (.aload_n 0, 1) := by decide +kernel
theorem dX6_init_10 : decode cX6_init 10 = .ok (.iconst 0, 1) := by decide +kernel
theorem dX6_init_11 : decode cX6_init 11 = .ok (.putfield 15, 3) := by decide +kernel
theorem dX6_init_14 : decode cX6_init 14 = .ok (.aload_n 0, 1) := by decide +kernel
theorem dX6_init_15 : decode cX6_init 15 = .ok (.iconst 0, 1) := by decide +kernel
theorem dX6_init_16 : decode cX6_init 16 = .ok (.putfield 18, 3) := by decide +kernel
theorem dX6_init_19 : decode cX6_init 19 = .ok (.aload_n 0, 1) := by decide +kernel
theorem dX6_init_20 : decode cX6_init 20 = .ok (.bipush 8, 2) := by decide +kernel
theorem dX6_init_22 : decode cX6_init 22 = .ok (.newarray .int, 2) := by decide +kernel
theorem dX6_init_24 : decode cX6_init 24 = .ok (.putfield 21, 3) := by decide +kernel
theorem dX6_init_27 : decode cX6_init 27 = .ok (.aload_n 0, 1) := by decide +kernel
theorem dX6_init_28 : decode cX6_init 28 = .ok (.iconst 2, 1) := by decide +kernel
theorem dX6_init_29 : decode cX6_init 29 = .ok (.newarray .int, 2) := by decide +kernel
theorem dX6_init_31 : decode cX6_init 31 = .ok (.putfield 25, 3) := by decide +kernel
theorem dX6_init_34 : decode cX6_init 34 = .ok (.aload_n 0, 1) := by decide +kernel
theorem dX6_init_35 : decode cX6_init 35 = .ok (.getfield 25, 3) := by decide +kernel
theorem dX6_init_38 : decode cX6_init 38 = .ok (.iconst 0, 1) := by decide +kernel
theorem dX6_init_39 : decode cX6_init 39 = .ok (.sipush 5000, 3) := by decide +kernel
theorem dX6_init_42 : decode cX6_init 42 = .ok (.iastore, 1) := by decide +kernel
theorem dX6_init_43 : decode cX6_init 43 = .ok (.aload_n 0, 1) := by decide +kernel
theorem dX6_init_44 : decode cX6_init 44 = .ok (.getfield 25, 3) := by decide +kernel
theorem dX6_init_47 : decode cX6_init 47 = .ok (.iconst 1, 1) := by decide +kernel
theorem dX6_init_48 : decode cX6_init 48 = .ok (.bipush 30, 2) := by decide +kernel
theorem dX6_init_50 : decode cX6_init 50 = .ok (.iastore, 1) := by decide +kernel
theorem dX6_init_51 : decode cX6_init 51 = .ok (.aload_n 0, 1) := by decide +kernel
theorem dX6_init_52 : decode cX6_init 52 = .ok (.new 28, 3) := by decide +kernel
theorem dX6_init_55 : decode cX6_init 55 = .ok (.dup, 1) := by decide +kernel
theorem dX6_init_56 : decode cX6_init 56 = .ok (.invokespecial 30, 3) := by decide +kernel
theorem dX6_init_59 : decode cX6_init 59 = .ok (.putfield 31, 3) := by decide +kernel
theorem dX6_init_62 : decode cX6_init 62 = .ok (.aload_n 0, 1) := by decide +kernel
theorem dX6_init_63 : decode cX6_init 63 = .ok (.new 35, 3) := by decide +kernel
theorem dX6_init_66 : decode cX6_init 66 = .ok (.dup, 1) := by decide +kernel
theorem dX6_init_67 : decode cX6_init 67 = .ok (.invokespecial 37, 3) := by decide +kernel
theorem dX6_init_70 : decode cX6_init 70 = .ok (.putfield 38, 3) := by decide +kernel
theorem dX6_init_73 : decode cX6_init 73 = .ok (.aload_n 0, 1) := by decide +kernel
theorem dX6_init_74 : decode cX6_init 74 = .ok (.new 42, 3) := by decide +kernel
theorem dX6_init_77 : decode cX6_init 77 = .ok (.dup, 1) := by decide +kernel
theorem dX6_init_78 : decode cX6_init 78 = .ok (.invokespecial 44, 3) := by decide +kernel
theorem dX6_init_81 : decode cX6_init 81 = .ok (.putfield 45, 3) := by decide +kernel
theorem dX6_init_84 : decode cX6_init 84 = .ok (.aload_n 0, 1) := by decide +kernel
theorem dX6_init_85 : decode cX6_init 85 = .ok (.new 49, 3) := by decide +kernel
theorem dX6_init_88 : decode cX6_init 88 = .ok (.dup, 1) := by decide +kernel
theorem dX6_init_89 : decode cX6_init 89 = .ok (.invokespecial 51, 3) := by decide +kernel
theorem dX6_init_92 : decode cX6_init 92 = .ok (.putfield 52, 3) := by decide +kernel
theorem dX6_init_95 : decode cX6_init 95 = .ok (.return_, 1) := by decide +kernel
theorem dX6_become_0 : decode cX6_become 0 = .ok (.aload_n 0, 1) := by decide +kernel
theorem dX6_become_1 : decode cX6_become 1 = .ok (.aload_n 1, 1) := by decide +kernel
theorem dX6_become_2 : decode cX6_become 2 = .ok (.getfield 9, 3) := by decide +kernel
theorem dX6_become_5 : decode cX6_become 5 = .ok (.putfield 9, 3) := by decide +kernel
theorem dX6_become_8 : decode cX6_become 8 = .ok (.aload_n 0, 1) := by decide +kernel
theorem dX6_become_9 : decode cX6_become 9 = .ok (.aload_n 1, 1) := by decide +kernel
theorem dX6_become_10 : decode cX6_become 10 = .ok (.getfield 15, 3) := by decide +kernel
theorem dX6_become_13 : decode cX6_become 13 = .ok (.putfield 15, 3) := by decide +kernel
theorem dX6_become_16 : decode cX6_become 16 = .ok (.aload_n 0, 1) := by decide +kernel
theorem dX6_become_17 : decode cX6_become 17 = .ok (.aload_n 1, 1) := by decide +kernel
theorem dX6_become_18 : decode cX6_become 18 = .ok (.getfield 18, 3) := by decide +kernel
theorem dX6_become_21 : decode cX6_become 21 = .ok (.putfield 18, 3) := by decide +kernel
theorem dX6_become_24 : decode cX6_become 24 = .ok (.aload_n 1, 1) := by decide +kernel
theorem dX6_become_25 : decode cX6_become 25 = .ok (.getfield 21, 3) := by decide +kernel
theorem dX6_become_28 : decode cX6_become 28 = .ok (.iconst 0, 1) := by decide +kernel
theorem dX6_become_29 : decode cX6_become 29 = .ok (.aload_n 0, 1) := by decide +kernel
theorem dX6_become_30 : decode cX6_become 30 = .ok (.getfield 21, 3) := by decide +kernel
theorem dX6_become_33 : decode cX6_become 33 = .ok (.iconst 0, 1) := by decide +kernel
theorem dX6_become_34 : decode cX6_become 34 = .ok (.bipush 8, 2) := by decide +kernel
theorem dX6_become_36 : decode cX6_become 36 = .ok (.invokestatic 56, 3) := by decide +kernel
theorem dX6_become_39 : decode cX6_become 39 = .ok (.aload_n 1, 1) := by decide +kernel
theorem dX6_become_40 : decode cX6_become 40 = .ok (.getfield 25, 3) := by decide +kernel
theorem dX6_become_43 : decode cX6_become 43 = .ok (.iconst 0, 1) := by decide +kernel
theorem dX6_become_44 : decode cX6_become 44 = .ok (.aload_n 0, 1) := by decide +kernel
theorem dX6_become_45 : decode cX6_become 45 = .ok (.getfield 25, 3) := by decide +kernel
theorem dX6_become_48 : decode cX6_become 48 = .ok (.iconst 0, 1) := by decide +kernel
theorem dX6_become_49 : decode cX6_become 49 = .ok (.iconst 2, 1) := by decide +kernel
theorem dX6_become_50 : decode cX6_become 50 = .ok (.invokestatic 56, 3) := by decide +kernel
theorem dX6_become_53 : decode cX6_become 53 = .ok (.aload_n 0, 1) := by decide +kernel
theorem dX6_become_54 : decode cX6_become 54 = .ok (.getfield 31, 3) := by decide +kernel
theorem dX6_become_57 : decode cX6_become 57 = .ok (.aload_n 1, 1) := by decide +kernel
theorem dX6_become_58 : decode cX6_become 58 = .ok (.getfield 31, 3) := by decide +kernel
theorem dX6_become_61 : decode cX6_become 61 = .ok (.invokevirtual 62, 3) := by decide +kernel
theorem dX6_become_64 : decode cX6_become 64 = .ok (.aload_n 0, 1) := by decide +kernel
theorem dX6_become_65 : decode cX6_become 65 = .ok (.getfield 38, 3) := by decide +kernel
theorem dX6_become_68 : decode cX6_become 68 = .ok (.aload_n 1, 1) := by decide +kernel
theorem dX6_become_69 : decode cX6_become 69 = .ok (.getfield 38, 3) := by decide +kernel
theorem dX6_become_72 : decode cX6_become 72 = .ok (.invokevirtual 66, 3) := by decide +kernel
theorem dX6_become_75 : decode cX6_become 75 = .ok (.aload_n 0, 1) := by decide +kernel
theorem dX6_become_76 : decode cX6_become 76 = .ok (.getfield 45, 3) := by decide +kernel
theorem dX6_become_79 : decode cX6_become 79 = .ok (.aload_n 1, 1) := by decide +kernel
theorem dX6_become_80 : decode cX6_become 80 = .ok (.getfield 45, 3) := by decide +kernel
theorem dX6_become_83 : decode cX6_become 83 = .ok (.invokevirtual 69, 3) := by decide +kernel
theorem dX6_become_86 : decode cX6_become 86 = .ok (.aload_n 0, 1) := by decide +kernel
theorem dX6_become_87 : decode cX6_become 87 = .ok (.getfield 52, 3) := by decide +kernel
theorem dX6_become_90 : decode cX6_become 90 = .ok (.aload_n 1, 1) := by decide +kernel
theorem dX6_become_91 : decode cX6_become 91 = .ok (.getfield 52, 3) := by decide +kernel
theorem dX6_become_94 : decode cX6_become 94 = .ok (.invokevirtual 72, 3) := by decide +kernel
theorem dX6_become_97 : decode cX6_become 97 = .ok (.return_, 1) := by decide +kernel
theorem dX6_hasLocker_0 : decode cX6_hasLocker 0 = .ok (.iload_n 1, 1) := by decide +kernel
theorem dX6_hasLocker_1 : decode cX6_hasLocker 1 = .ok (.ifCond .lt 18, 3) := by decide +kernel
theorem dX6_hasLocker_4 : decode cX6_hasLocker 4 = .ok (.iload_n 1, 1) := by decide +kernel
theorem dX6_hasLocker_5 : decode cX6_hasLocker 5 = .ok (.aload_n 0, 1) := by decide +kernel
theorem dX6_hasLocker_6 : decode cX6_hasLocker 6 = .ok (.getfield 31, 3) := by decide +kernel
theorem dX6_hasLocker_9 : decode cX6_hasLocker 9 = .ok (.getfield 75, 3) := by decide +kernel
theorem dX6_hasLocker_12 : decode cX6_hasLocker 12 = .ok (.if_icmp .ge 7, 3) := by decide +kernel
theorem dX6_hasLocker_15 : decode cX6_hasLocker 15 = .ok (.iconst 1, 1) := by decide +kernel
theorem dX6_hasLocker_16 : decode cX6_hasLocker 16 = .ok (.goto 4, 3) := by decide +kernel
theorem dX6_hasLocker_19 : decode cX6_hasLocker 19 = .ok (.iconst 0, 1) := by decide +kernel
theorem dX6_hasLocker_20 : decode cX6_hasLocker 20 = .ok (.ireturn, 1) := by decide +kernel
theorem dX6_hasGood_0 : decode cX6_hasGood 0 = .ok (.iload_n 1, 1) := by decide +kernel
theorem dX6_hasGood_1 : decode cX6_hasGood 1 = .ok (.ifCond .lt 15, 3) := by decide +kernel
theorem dX6_hasGood_4 : decode cX6_hasGood 4 = .ok (.iload_n 1, 1) := by decide +kernel
theorem dX6_hasGood_5 : decode cX6_hasGood 5 = .ok (.aload_n 0, 1) := by decide +kernel
theorem dX6_hasGood_6 : decode cX6_hasGood 6 = .ok (.getfield 18, 3) := by decide +kernel
theorem dX6_hasGood_9 : decode cX6_hasGood 9 = .ok (.if_icmp .ge 7, 3) := by decide +kernel
theorem dX6_hasGood_12 : decode cX6_hasGood 12 = .ok (.iconst 1, 1) := by decide +kernel
theorem dX6_hasGood_13 : decode cX6_hasGood 13 = .ok (.goto 4, 3) := by decide +kernel
theorem dX6_hasGood_16 : decode cX6_hasGood 16 = .ok (.iconst 0, 1) := by decide +kernel
theorem dX6_hasGood_17 : decode cX6_hasGood 17 = .ok (.ireturn, 1) := by decide +kernel
theorem dX6_isDuty_0 : decode cX6_isDuty 0 = .ok (.iload_n 1, 1) := by decide +kernel
theorem dX6_isDuty_1 : decode cX6_isDuty 1 = .ok (.iconst 1, 1) := by decide +kernel
theorem dX6_isDuty_2 : decode cX6_isDuty 2 = .ok (.if_icmp .lt 13, 3) := by decide +kernel
theorem dX6_isDuty_5 : decode cX6_isDuty 5 = .ok (.iload_n 1, 1) := by decide +kernel
theorem dX6_isDuty_6 : decode cX6_isDuty 6 = .ok (.ldc 78, 2) := by decide +kernel
theorem dX6_isDuty_8 : decode cX6_isDuty 8 = .ok (.if_icmp .gt 7, 3) := by decide +kernel
theorem dX6_isDuty_11 : decode cX6_isDuty 11 = .ok (.iconst 1, 1) := by decide +kernel
theorem dX6_isDuty_12 : decode cX6_isDuty 12 = .ok (.goto 4, 3) := by decide +kernel
theorem dX6_isDuty_15 : decode cX6_isDuty 15 = .ok (.iconst 0, 1) := by decide +kernel
theorem dX6_isDuty_16 : decode cX6_isDuty 16 = .ok (.ireturn, 1) := by decide +kernel
theorem dX6_canMove_0 : decode cX6_canMove 0 = .ok (.aload_n 0, 1) := by decide +kernel
theorem dX6_canMove_1 : decode cX6_canMove 1 = .ok (.iload_n 1, 1) := by decide +kernel
theorem dX6_canMove_2 : decode cX6_canMove 2 = .ok (.invokevirtual 79, 3) := by decide +kernel
theorem dX6_canMove_5 : decode cX6_canMove 5 = .ok (.ifCond .eq 27, 3) := by decide +kernel
theorem dX6_canMove_8 : decode cX6_canMove 8 = .ok (.aload_n 0, 1) := by decide +kernel
theorem dX6_canMove_9 : decode cX6_canMove 9 = .ok (.iload_n 2, 1) := by decide +kernel
theorem dX6_canMove_10 : decode cX6_canMove 10 = .ok (.invokevirtual 83, 3) := by decide +kernel
theorem dX6_canMove_13 : decode cX6_canMove 13 = .ok (.ifCond .eq 19, 3) := by decide +kernel
theorem dX6_canMove_16 : decode cX6_canMove 16 = .ok (.iload_n 3, 1) := by decide +kernel
theorem dX6_canMove_17 : decode cX6_canMove 17 = .ok (.iconst 1, 1) := by decide +kernel
theorem dX6_canMove_18 : decode cX6_canMove 18 = .ok (.if_icmp .lt 14, 3) := by decide +kernel
theorem dX6_canMove_21 : decode cX6_canMove 21 = .ok (.iload_n 3, 1) := by decide +kernel
theorem dX6_canMove_22 : decode cX6_canMove 22 = .ok (.sipush 9999, 3) := by decide +kernel
theorem dX6_canMove_25 : decode cX6_canMove 25 = .ok (.if_icmp .gt 7, 3) := by decide +kernel
theorem dX6_canMove_28 : decode cX6_canMove 28 = .ok (.iconst 1, 1) := by decide +kernel
theorem dX6_canMove_29 : decode cX6_canMove 29 = .ok (.goto 4, 3) := by decide +kernel
theorem dX6_canMove_32 : decode cX6_canMove 32 = .ok (.iconst 0, 1) := by decide +kernel
theorem dX6_canMove_33 : decode cX6_canMove 33 = .ok (.ireturn, 1) := by decide +kernel
theorem dX6_addLocker_0 : decode cX6_addLocker 0 = .ok (.aload_n 0, 1) := by decide +kernel
theorem dX6_addLocker_1 : decode cX6_addLocker 1 = .ok (.getfield 9, 3) := by decide +kernel
theorem dX6_addLocker_4 : decode cX6_addLocker 4 = .ok (.iconst 2, 1) := by decide +kernel
theorem dX6_addLocker_5 : decode cX6_addLocker 5 = .ok (.if_icmp .eq 6, 3) := by decide +kernel
theorem dX6_addLocker_8 : decode cX6_addLocker 8 = .ok (.bipush (-2), 2) := by decide +kernel
theorem dX6_addLocker_10 : decode cX6_addLocker 10 = .ok (.ireturn, 1) := by decide +kernel
theorem dX6_addLocker_11 : decode cX6_addLocker 11 = .ok (.aload_n 0, 1) := by decide +kernel
theorem dX6_addLocker_12 : decode cX6_addLocker 12 = .ok (.getfield 31, 3) := by decide +kernel
theorem dX6_addLocker_15 : decode cX6_addLocker 15 = .ok (.getfield 75, 3) := by decide +kernel
theorem dX6_addLocker_18 : decode cX6_addLocker 18 = .ok (.iconst 5, 1) := by decide +kernel
theorem dX6_addLocker_19 : decode cX6_addLocker 19 = .ok (.if_icmp .ge 14, 3) := by decide +kernel
theorem dX6_addLocker_22 : decode cX6_addLocker 22 = .ok (.aload_n 0, 1) := by decide +kernel
theorem dX6_addLocker_23 : decode cX6_addLocker 23 = .ok (.getfield 38, 3) := by decide +kernel
theorem dX6_addLocker_26 : decode cX6_addLocker 26 = .ok (.invokevirtual 86, 3) := by decide +kernel
theorem dX6_addLocker_29 : decode cX6_addLocker 29 = .ok (.iconst 1, 1) := by decide +kernel
theorem dX6_addLocker_30 : decode cX6_addLocker 30 = .ok (.if_icmp .ge 6, 3) := by decide +kernel
theorem dX6_addLocker_33 : decode cX6_addLocker 33 = .ok (.bipush (-3), 2) := by decide +kernel
theorem dX6_addLocker_35 : decode cX6_addLocker 35 = .ok (.ireturn, 1) := by decide +kernel
theorem dX6_addLocker_36 : decode cX6_addLocker 36 = .ok (.aload_n 0, 1) := by decide +kernel
theorem dX6_addLocker_37 : decode cX6_addLocker 37 = .ok (.getfield 31, 3) := by decide +kernel
theorem dX6_addLocker_40 : decode cX6_addLocker 40 = .ok (.getfield 75, 3) := by decide +kernel
theorem dX6_addLocker_43 : decode cX6_addLocker 43 = .ok (.istore_n 1, 1) := by decide +kernel
theorem dX6_addLocker_44 : decode cX6_addLocker 44 = .ok (.aload_n 0, 1) := by decide +kernel
theorem dX6_addLocker_45 : decode cX6_addLocker 45 = .ok (.getfield 31, 3) := by decide +kernel
theorem dX6_addLocker_48 : decode cX6_addLocker 48 = .ok (.dup, 1) := by decide +kernel
theorem dX6_addLocker_49 : decode cX6_addLocker 49 = .ok (.getfield 75, 3) := by decide +kernel
theorem dX6_addLocker_52 : decode cX6_addLocker 52 = .ok (.iconst 1, 1) := by decide +kernel
theorem dX6_addLocker_53 : decode cX6_addLocker 53 = .ok (.iadd, 1) := by decide +kernel
theorem dX6_addLocker_54 : decode cX6_addLocker 54 = .ok (.putfield 75, 3) := by decide +kernel
theorem dX6_addLocker_57 : decode cX6_addLocker 57 = .ok (.aload_n 0, 1) := by decide +kernel
theorem dX6_addLocker_58 : decode cX6_addLocker 58 = .ok (.iload_n 1, 1) := by decide +kernel
theorem dX6_addLocker_59 : decode cX6_addLocker 59 = .ok (.invokevirtual 90, 3) := by decide +kernel
theorem dX6_addLocker_62 : decode cX6_addLocker 62 = .ok (.iload_n 1, 1) := by decide +kernel
theorem dX6_addLocker_63 : decode cX6_addLocker 63 = .ok (.ireturn, 1) := by decide +kernel
theorem dX6_addGood_0 : decode cX6_addGood 0 = .ok (.aload_n 0, 1) := by decide +kernel
theorem dX6_addGood_1 : decode cX6_addGood 1 = .ok (.iload_n 1, 1) := by decide +kernel
theorem dX6_addGood_2 : decode cX6_addGood 2 = .ok (.invokevirtual 94, 3) := by decide +kernel
theorem dX6_addGood_5 : decode cX6_addGood 5 = .ok (.ifCond .ne 5, 3) := by decide +kernel
theorem dX6_addGood_8 : decode cX6_addGood 8 = .ok (.iconst (-1), 1) := by decide +kernel
theorem dX6_addGood_9 : decode cX6_addGood 9 = .ok (.ireturn, 1) := by decide +kernel
theorem dX6_addGood_10 : decode cX6_addGood 10 = .ok (.aload_n 0, 1) := by decide +kernel
theorem dX6_addGood_11 : decode cX6_addGood 11 = .ok (.getfield 18, 3) := by decide +kernel
theorem dX6_addGood_14 : decode cX6_addGood 14 = .ok (.bipush 8, 2) := by decide +kernel
theorem dX6_addGood_16 : decode cX6_addGood 16 = .ok (.if_icmp .lt 6, 3) := by decide +kernel
theorem dX6_addGood_19 : decode cX6_addGood 19 = .ok (.bipush (-3), 2) := by decide +kernel
theorem dX6_addGood_21 : decode cX6_addGood 21 = .ok (.ireturn, 1) := by decide +kernel
theorem dX6_addGood_22 : decode cX6_addGood 22 = .ok (.aload_n 0, 1) := by decide +kernel
theorem dX6_addGood_23 : decode cX6_addGood 23 = .ok (.getfield 21, 3) := by decide +kernel
theorem dX6_addGood_26 : decode cX6_addGood 26 = .ok (.aload_n 0, 1) := by decide +kernel
theorem dX6_addGood_27 : decode cX6_addGood 27 = .ok (.getfield 18, 3) := by decide +kernel
theorem dX6_addGood_30 : decode cX6_addGood 30 = .ok (.iload_n 1, 1) := by decide +kernel
theorem dX6_addGood_31 : decode cX6_addGood 31 = .ok (.iastore, 1) := by decide +kernel
theorem dX6_addGood_32 : decode cX6_addGood 32 = .ok (.aload_n 0, 1) := by decide +kernel
theorem dX6_addGood_33 : decode cX6_addGood 33 = .ok (.dup, 1) := by decide +kernel
theorem dX6_addGood_34 : decode cX6_addGood 34 = .ok (.getfield 18, 3) := by decide +kernel
theorem dX6_addGood_37 : decode cX6_addGood 37 = .ok (.iconst 1, 1) := by decide +kernel
theorem dX6_addGood_38 : decode cX6_addGood 38 = .ok (.iadd, 1) := by decide +kernel
theorem dX6_addGood_39 : decode cX6_addGood 39 = .ok (.putfield 18, 3) := by decide +kernel
theorem dX6_addGood_42 : decode cX6_addGood 42 = .ok (.aload_n 0, 1) := by decide +kernel
theorem dX6_addGood_43 : decode cX6_addGood 43 = .ok (.getfield 18, 3) := by decide +kernel
theorem dX6_addGood_46 : decode cX6_addGood 46 = .ok (.iconst 1, 1) := by decide +kernel
theorem dX6_addGood_47 : decode cX6_addGood 47 = .ok (.isub, 1) := by decide +kernel
theorem dX6_addGood_48 : decode cX6_addGood 48 = .ok (.ireturn, 1) := by decide +kernel
theorem dX6_changeDuty_0 : decode cX6_changeDuty 0 = .ok (.aload_n 0, 1) := by decide +kernel
theorem dX6_changeDuty_1 : decode cX6_changeDuty 1 = .ok (.iload_n 1, 1) := by decide +kernel
theorem dX6_changeDuty_2 : decode cX6_changeDuty 2 = .ok (.invokevirtual 83, 3) := by decide +kernel
theorem dX6_changeDuty_5 : decode cX6_changeDuty 5 = .ok (.ifCond .eq 11, 3) := by decide +kernel
theorem dX6_changeDuty_8 : decode cX6_changeDuty 8 = .ok (.aload_n 0, 1) := by decide +kernel
theorem dX6_changeDuty_9 : decode cX6_changeDuty 9 = .ok (.iload_n 2, 1) := by decide +kernel
theorem dX6_changeDuty_10 : decode cX6_changeDuty 10 = .ok (.invokevirtual 94, 3) := by decide +kernel
theorem dX6_changeDuty_13 : decode cX6_changeDuty 13 = .ok (.ifCond .ne 5, 3) := by decide +kernel
theorem dX6_changeDuty_16 : decode cX6_changeDuty 16 = .ok (.iconst (-1), 1) := by decide +kernel
theorem dX6_changeDuty_17 : decode cX6_changeDuty 17 = .ok (.ireturn, 1) := by decide +kernel
theorem dX6_changeDuty_18 : decode cX6_changeDuty 18 = .ok (.aload_n 0, 1) := by decide +kernel
theorem dX6_changeDuty_19 : decode cX6_changeDuty 19 = .ok (.getfield 21, 3) := by decide +kernel
theorem dX6_changeDuty_22 : decode cX6_changeDuty 22 = .ok (.iload_n 1, 1) := by decide +kernel
theorem dX6_changeDuty_23 : decode cX6_changeDuty 23 = .ok (.iaload, 1) := by decide +kernel
theorem dX6_changeDuty_24 : decode cX6_changeDuty 24 = .ok (.istore_n 3, 1) := by decide +kernel
theorem dX6_changeDuty_25 : decode cX6_changeDuty 25 = .ok (.aload_n 0, 1) := by decide +kernel
theorem dX6_changeDuty_26 : decode cX6_changeDuty 26 = .ok (.getfield 21, 3) := by decide +kernel
theorem dX6_changeDuty_29 : decode cX6_changeDuty 29 = .ok (.iload_n 1, 1) := by decide +kernel
theorem dX6_changeDuty_30 : decode cX6_changeDuty 30 = .ok (.iload_n 2, 1) := by decide +kernel
theorem dX6_changeDuty_31 : decode cX6_changeDuty 31 = .ok (.iastore, 1) := by decide +kernel
theorem dX6_changeDuty_32 : decode cX6_changeDuty 32 = .ok (.iload_n 3, 1) := by decide +kernel
theorem dX6_changeDuty_33 : decode cX6_changeDuty 33 = .ok (.ireturn, 1) := by decide +kernel
theorem dX6_loadUnits_0 : decode cX6_loadUnits 0 = .ok (.aload_n 0, 1) := by decide +kernel
theorem dX6_loadUnits_1 : decode cX6_loadUnits 1 = .ok (.iload_n 1, 1) := by decide +kernel
theorem dX6_loadUnits_2 : decode cX6_loadUnits 2 = .ok (.iload_n 2, 1) := by decide +kernel
theorem dX6_loadUnits_3 : decode cX6_loadUnits 3 = .ok (.iload_n 3, 1) := by decide +kernel
theorem dX6_loadUnits_4 : decode cX6_loadUnits 4 = .ok (.invokevirtual 97, 3) := by decide +kernel
theorem dX6_loadUnits_7 : decode cX6_loadUnits 7 = .ok (.ifCond .ne 5, 3) := by decide +kernel
theorem dX6_loadUnits_10 : decode cX6_loadUnits 10 = .ok (.iconst (-1), 1) := by decide +kernel
theorem dX6_loadUnits_11 : decode cX6_loadUnits 11 = .ok (.ireturn, 1) := by decide +kernel
theorem dX6_loadUnits_12 : decode cX6_loadUnits 12 = .ok (.aload_n 0, 1) := by decide +kernel
theorem dX6_loadUnits_13 : decode cX6_loadUnits 13 = .ok (.getfield 9, 3) := by decide +kernel
theorem dX6_loadUnits_16 : decode cX6_loadUnits 16 = .ok (.iconst 2, 1) := by decide +kernel
theorem dX6_loadUnits_17 : decode cX6_loadUnits 17 = .ok (.if_icmp .ne 16, 3) := by decide +kernel
theorem dX6_loadUnits_20 : decode cX6_loadUnits 20 = .ok (.aload_n 0, 1) := by decide +kernel
theorem dX6_loadUnits_21 : decode cX6_loadUnits 21 = .ok (.getfield 31, 3) := by decide +kernel
theorem dX6_loadUnits_24 : decode cX6_loadUnits 24 = .ok (.getfield 101, 3) := by decide +kernel
theorem dX6_loadUnits_27 : decode cX6_loadUnits 27 = .ok (.iload_n 1, 1) := by decide +kernel
theorem dX6_loadUnits_28 : decode cX6_loadUnits 28 = .ok (.iaload, 1) := by decide +kernel
theorem dX6_loadUnits_29 : decode cX6_loadUnits 29 = .ok (.iconst 2, 1) := by decide +kernel
theorem dX6_loadUnits_30 : decode cX6_loadUnits 30 = .ok (.if_icmp .ne 6, 3) := by decide +kernel
theorem dX6_loadUnits_33 : decode cX6_loadUnits 33 = .ok (.bipush (-2), 2) := by decide +kernel
theorem dX6_loadUnits_35 : decode cX6_loadUnits 35 = .ok (.ireturn, 1) := by decide +kernel
theorem dX6_loadUnits_36 : decode cX6_loadUnits 36 = .ok (.aload_n 0, 1) := by decide +kernel
theorem dX6_loadUnits_37 : decode cX6_loadUnits 37 = .ok (.getfield 31, 3) := by decide +kernel
theorem dX6_loadUnits_40 : decode cX6_loadUnits 40 = .ok (.iload_n 1, 1) := by decide +kernel
theorem dX6_loadUnits_41 : decode cX6_loadUnits 41 = .ok (.iload_n 2, 1) := by decide +kernel
theorem dX6_loadUnits_42 : decode cX6_loadUnits 42 = .ok (.invokevirtual 104, 3) := by decide +kernel
theorem dX6_loadUnits_45 : decode cX6_loadUnits 45 = .ok (.istore 4, 2) := by decide +kernel
theorem dX6_loadUnits_47 : decode cX6_loadUnits 47 = .ok (.iload_n 3, 1) := by decide +kernel
theorem dX6_loadUnits_48 : decode cX6_loadUnits 48 = .ok (.i2l, 1) := by decide +kernel
theorem dX6_loadUnits_49 : decode cX6_loadUnits 49 = .ok (.aload_n 0, 1) := by decide +kernel
theorem dX6_loadUnits_50 : decode cX6_loadUnits 50 = .ok (.getfield 21, 3) := by decide +kernel
theorem dX6_loadUnits_53 : decode cX6_loadUnits 53 = .ok (.iload_n 2, 1) := by decide +kernel
theorem dX6_loadUnits_54 : decode cX6_loadUnits 54 = .ok (.iaload, 1) := by decide +kernel
theorem dX6_loadUnits_55 : decode cX6_loadUnits 55 = .ok (.i2l, 1) := by decide +kernel
theorem dX6_loadUnits_56 : decode cX6_loadUnits 56 = .ok (.lmul, 1) := by decide +kernel
theorem dX6_loadUnits_57 : decode cX6_loadUnits 57 = .ok (.lstore 5, 2) := by decide +kernel
theorem dX6_loadUnits_59 : decode cX6_loadUnits 59 = .ok (.aload_n 0, 1) := by decide +kernel
theorem dX6_loadUnits_60 : decode cX6_loadUnits 60 = .ok (.getfield 45, 3) := by decide +kernel
theorem dX6_loadUnits_63 : decode cX6_loadUnits 63 = .ok (.getfield 108, 3) := by decide +kernel
theorem dX6_loadUnits_66 : decode cX6_loadUnits 66 = .ok (.bipush 60, 2) := by decide +kernel
theorem dX6_loadUnits_68 : decode cX6_loadUnits 68 = .ok (.if_icmp .ge 48, 3) := by decide +kernel
theorem dX6_loadUnits_71 : decode cX6_loadUnits 71 = .ok (.aload_n 0, 1) := by decide +kernel
theorem dX6_loadUnits_72 : decode cX6_loadUnits 72 = .ok (.getfield 38, 3) := by decide +kernel
theorem dX6_loadUnits_75 : decode cX6_loadUnits 75 = .ok (.invokevirtual 86, 3) := by decide +kernel
theorem dX6_loadUnits_78 : decode cX6_loadUnits 78 = .ok (.iconst 1, 1) := by decide +kernel
theorem dX6_loadUnits_79 : decode cX6_loadUnits 79 = .ok (.if_icmp .lt 37, 3) := by decide +kernel
theorem dX6_loadUnits_82 : decode cX6_loadUnits 82 = .ok (.aload_n 0, 1) := by decide +kernel
theorem dX6_loadUnits_83 : decode cX6_loadUnits 83 = .ok (.getfield 31, 3) := by decide +kernel
theorem dX6_loadUnits_86 : decode cX6_loadUnits 86 = .ok (.getfield 109, 3) := by decide +kernel
theorem dX6_loadUnits_89 : decode cX6_loadUnits 89 = .ok (.iload 4, 2) := by decide +kernel
theorem dX6_loadUnits_91 : decode cX6_loadUnits 91 = .ok (.iaload, 1) := by decide +kernel
theorem dX6_loadUnits_92 : decode cX6_loadUnits 92 = .ok (.iload_n 3, 1) := by decide +kernel
theorem dX6_loadUnits_93 : decode cX6_loadUnits 93 = .ok (.iadd, 1) := by decide +kernel
theorem dX6_loadUnits_94 : decode cX6_loadUnits 94 = .ok (.ldc 112, 2) := by decide +kernel
theorem dX6_loadUnits_96 : decode cX6_loadUnits 96 = .ok (.if_icmp .gt 20, 3) := by decide +kernel
theorem dX6_loadUnits_99 : decode cX6_loadUnits 99 = .ok (.aload_n 0, 1) := by decide +kernel
theorem dX6_loadUnits_100 : decode cX6_loadUnits 100 = .ok (.getfield 45, 3) := by decide +kernel
theorem dX6_loadUnits_103 : decode cX6_loadUnits 103 = .ok (.getfield 113, 3) := by decide +kernel
theorem dX6_loadUnits_106 : decode cX6_loadUnits 106 = .ok (.lload 5, 2) := by decide +kernel
theorem dX6_loadUnits_108 : decode cX6_loadUnits 108 = .ok (.ladd, 1) := by decide +kernel
theorem dX6_loadUnits_109 : decode cX6_loadUnits 109 = .ok (.ldc2_w 117, 3) := by decide +kernel
theorem dX6_loadUnits_112 : decode cX6_loadUnits 112 = .ok (.lcmp, 1) := by decide +kernel
theorem dX6_loadUnits_113 : decode cX6_loadUnits 113 = .ok (.ifCond .le 6, 3) := by decide +kernel
theorem dX6_loadUnits_116 : decode cX6_loadUnits 116 = .ok (.bipush (-3), 2) := by decide +kernel
theorem dX6_loadUnits_118 : decode cX6_loadUnits 118 = .ok (.ireturn, 1) := by decide +kernel
theorem dX6_loadUnits_119 : decode cX6_loadUnits 119 = .ok (.aload_n 0, 1) := by decide +kernel
theorem dX6_loadUnits_120 : decode cX6_loadUnits 120 = .ok (.iload_n 1, 1) := by decide +kernel
theorem dX6_loadUnits_121 : decode cX6_loadUnits 121 = .ok (.invokevirtual 119, 3) := by decide +kernel
theorem dX6_loadUnits_124 : decode cX6_loadUnits 124 = .ok (.aload_n 0, 1) := by decide +kernel
theorem dX6_loadUnits_125 : decode cX6_loadUnits 125 = .ok (.getfield 31, 3) := by decide +kernel
theorem dX6_loadUnits_128 : decode cX6_loadUnits 128 = .ok (.getfield 109, 3) := by decide +kernel
theorem dX6_loadUnits_131 : decode cX6_loadUnits 131 = .ok (.iload 4, 2) := by decide +kernel
theorem dX6_loadUnits_133 : decode cX6_loadUnits 133 = .ok (.dup2, 1) := by decide +kernel
theorem dX6_loadUnits_134 : decode cX6_loadUnits 134 = .ok (.iaload, 1) := by decide +kernel
theorem dX6_loadUnits_135 : decode cX6_loadUnits 135 = .ok (.iload_n 3, 1) := by decide +kernel
theorem dX6_loadUnits_136 : decode cX6_loadUnits 136 = .ok (.iadd, 1) := by decide +kernel
theorem dX6_loadUnits_137 : decode cX6_loadUnits 137 = .ok (.iastore, 1) := by decide +kernel
theorem dX6_loadUnits_138 : decode cX6_loadUnits 138 = .ok (.aload_n 0, 1) := by decide +kernel
theorem dX6_loadUnits_139 : decode cX6_loadUnits 139 = .ok (.getfield 45, 3) := by decide +kernel
theorem dX6_loadUnits_142 : decode cX6_loadUnits 142 = .ok (.iload_n 2, 1) := by decide +kernel
theorem dX6_loadUnits_143 : decode cX6_loadUnits 143 = .ok (.iload_n 3, 1) := by decide +kernel
theorem dX6_loadUnits_144 : decode cX6_loadUnits 144 = .ok (.aload_n 0, 1) := by decide +kernel
theorem dX6_loadUnits_145 : decode cX6_loadUnits 145 = .ok (.getfield 21, 3) := by decide +kernel
theorem dX6_loadUnits_148 : decode cX6_loadUnits 148 = .ok (.iload_n 2, 1) := by decide +kernel
theorem dX6_loadUnits_149 : decode cX6_loadUnits 149 = .ok (.iaload, 1) := by decide +kernel
theorem dX6_loadUnits_150 : decode cX6_loadUnits 150 = .ok (.aload_n 0, 1) := by decide +kernel
theorem dX6_loadUnits_151 : decode cX6_loadUnits 151 = .ok (.getfield 15, 3) := by decide +kernel
theorem dX6_loadUnits_154 : decode cX6_loadUnits 154 = .ok (.aload_n 0, 1) := by decide +kernel
theorem dX6_loadUnits_155 : decode cX6_loadUnits 155 = .ok (.getfield 25, 3) := by decide +kernel
theorem dX6_loadUnits_158 : decode cX6_loadUnits 158 = .ok (.iconst 1, 1) := by decide +kernel
theorem dX6_loadUnits_159 : decode cX6_loadUnits 159 = .ok (.iaload, 1) := by decide +kernel
theorem dX6_loadUnits_160 : decode cX6_loadUnits 160 = .ok (.iadd, 1) := by decide +kernel
theorem dX6_loadUnits_161 : decode cX6_loadUnits 161 = .ok (.invokevirtual 122, 3) := by decide +kernel
theorem dX6_loadUnits_164 : decode cX6_loadUnits 164 = .ok (.ireturn, 1) := by decide +kernel
theorem dX6_useUnits_0 : decode cX6_useUnits 0 = .ok (.aload_n 0, 1) := by decide +kernel
theorem dX6_useUnits_1 : decode cX6_useUnits 1 = .ok (.iload_n 1, 1) := by decide +kernel
theorem dX6_useUnits_2 : decode cX6_useUnits 2 = .ok (.iload_n 2, 1) := by decide +kernel
theorem dX6_useUnits_3 : decode cX6_useUnits 3 = .ok (.iload_n 3, 1) := by decide +kernel
theorem dX6_useUnits_4 : decode cX6_useUnits 4 = .ok (.invokevirtual 97, 3) := by decide +kernel
theorem dX6_useUnits_7 : decode cX6_useUnits 7 = .ok (.ifCond .ne 5, 3) := by decide +kernel
theorem dX6_useUnits_10 : decode cX6_useUnits 10 = .ok (.iconst (-1), 1) := by decide +kernel
theorem dX6_useUnits_11 : decode cX6_useUnits 11 = .ok (.ireturn, 1) := by decide +kernel
theorem dX6_useUnits_12 : decode cX6_useUnits 12 = .ok (.aload_n 0, 1) := by decide +kernel
theorem dX6_useUnits_13 : decode cX6_useUnits 13 = .ok (.getfield 31, 3) := by decide +kernel
theorem dX6_useUnits_16 : decode cX6_useUnits 16 = .ok (.iload_n 1, 1) := by decide +kernel
theorem dX6_useUnits_17 : decode cX6_useUnits 17 = .ok (.iload_n 2, 1) := by decide +kernel
theorem dX6_useUnits_18 : decode cX6_useUnits 18 = .ok (.invokevirtual 104, 3) := by decide +kernel
theorem dX6_useUnits_21 : decode cX6_useUnits 21 = .ok (.istore 4, 2) := by decide +kernel
theorem dX6_useUnits_23 : decode cX6_useUnits 23 = .ok (.aload_n 0, 1) := by decide +kernel
theorem dX6_useUnits_24 : decode cX6_useUnits 24 = .ok (.getfield 9, 3) := by decide +kernel
theorem dX6_useUnits_27 : decode cX6_useUnits 27 = .ok (.ifCond .ne 17, 3) := by decide +kernel
theorem dX6_useUnits_30 : decode cX6_useUnits 30 = .ok (.aload_n 0, 1) := by decide +kernel
theorem dX6_useUnits_31 : decode cX6_useUnits 31 = .ok (.getfield 31, 3) := by decide +kernel
theorem dX6_useUnits_34 : decode cX6_useUnits 34 = .ok (.getfield 109, 3) := by decide +kernel
theorem dX6_useUnits_37 : decode cX6_useUnits 37 = .ok (.iload 4, 2) := by decide +kernel
theorem dX6_useUnits_39 : decode cX6_useUnits 39 = .ok (.iaload, 1) := by decide +kernel
theorem dX6_useUnits_40 : decode cX6_useUnits 40 = .ok (.iload_n 3, 1) := by decide +kernel
theorem dX6_useUnits_41 : decode cX6_useUnits 41 = .ok (.if_icmp .ge 6, 3) := by decide +kernel
theorem dX6_useUnits_44 : decode cX6_useUnits 44 = .ok (.bipush (-2), 2) := by decide +kernel
theorem dX6_useUnits_46 : decode cX6_useUnits 46 = .ok (.ireturn, 1) := by decide +kernel
theorem dX6_useUnits_47 : decode cX6_useUnits 47 = .ok (.aload_n 0, 1) := by decide +kernel
theorem dX6_useUnits_48 : decode cX6_useUnits 48 = .ok (.getfield 31, 3) := by decide +kernel
theorem dX6_useUnits_51 : decode cX6_useUnits 51 = .ok (.getfield 109, 3) := by decide +kernel
theorem dX6_useUnits_54 : decode cX6_useUnits 54 = .ok (.iload 4, 2) := by decide +kernel
theorem dX6_useUnits_56 : decode cX6_useUnits 56 = .ok (.dup2, 1) := by decide +kernel
theorem dX6_useUnits_57 : decode cX6_useUnits 57 = .ok (.iaload, 1) := by decide +kernel
theorem dX6_useUnits_58 : decode cX6_useUnits 58 = .ok (.iload_n 3, 1) := by decide +kernel
theorem dX6_useUnits_59 : decode cX6_useUnits 59 = .ok (.isub, 1) := by decide +kernel
theorem dX6_useUnits_60 : decode cX6_useUnits 60 = .ok (.iastore, 1) := by decide +kernel
theorem dX6_useUnits_61 : decode cX6_useUnits 61 = .ok (.aload_n 0, 1) := by decide +kernel
theorem dX6_useUnits_62 : decode cX6_useUnits 62 = .ok (.iload_n 2, 1) := by decide +kernel
theorem dX6_useUnits_63 : decode cX6_useUnits 63 = .ok (.iload_n 3, 1) := by decide +kernel
theorem dX6_useUnits_64 : decode cX6_useUnits 64 = .ok (.iconst 0, 1) := by decide +kernel
theorem dX6_useUnits_65 : decode cX6_useUnits 65 = .ok (.invokevirtual 126, 3) := by decide +kernel
theorem dX6_useUnits_68 : decode cX6_useUnits 68 = .ok (.l2i, 1) := by decide +kernel
theorem dX6_useUnits_69 : decode cX6_useUnits 69 = .ok (.ireturn, 1) := by decide +kernel
theorem dX6_returnUnits_0 : decode cX6_returnUnits 0 = .ok (.aload_n 0, 1) := by decide +kernel
theorem dX6_returnUnits_1 : decode cX6_returnUnits 1 = .ok (.iload_n 1, 1) := by decide +kernel
theorem dX6_returnUnits_2 : decode cX6_returnUnits 2 = .ok (.iload_n 2, 1) := by decide +kernel
theorem dX6_returnUnits_3 : decode cX6_returnUnits 3 = .ok (.iload_n 3, 1) := by decide +kernel
theorem dX6_returnUnits_4 : decode cX6_returnUnits 4 = .ok (.invokevirtual 97, 3) := by decide +kernel
theorem dX6_returnUnits_7 : decode cX6_returnUnits 7 = .ok (.ifCond .ne 5, 3) := by decide +kernel
theorem dX6_returnUnits_10 : decode cX6_returnUnits 10 = .ok (.iconst (-1), 1) := by decide +kernel
theorem dX6_returnUnits_11 : decode cX6_returnUnits 11 = .ok (.ireturn, 1) := by decide +kernel
theorem dX6_returnUnits_12 : decode cX6_returnUnits 12 = .ok (.aload_n 0, 1) := by decide +kernel
theorem dX6_returnUnits_13 : decode cX6_returnUnits 13 = .ok (.getfield 31, 3) := by decide +kernel
theorem dX6_returnUnits_16 : decode cX6_returnUnits 16 = .ok (.iload_n 1, 1) := by decide +kernel
theorem dX6_returnUnits_17 : decode cX6_returnUnits 17 = .ok (.iload_n 2, 1) := by decide +kernel
theorem dX6_returnUnits_18 : decode cX6_returnUnits 18 = .ok (.invokevirtual 104, 3) := by decide +kernel
theorem dX6_returnUnits_21 : decode cX6_returnUnits 21 = .ok (.istore 4, 2) := by decide +kernel
theorem dX6_returnUnits_23 : decode cX6_returnUnits 23 = .ok (.aload_n 0, 1) := by decide +kernel
theorem dX6_returnUnits_24 : decode cX6_returnUnits 24 = .ok (.getfield 9, 3) := by decide +kernel
theorem dX6_returnUnits_27 : decode cX6_returnUnits 27 = .ok (.iconst 2, 1) := by decide +kernel
theorem dX6_returnUnits_28 : decode cX6_returnUnits 28 = .ok (.if_icmp .ne 30, 3) := by decide +kernel
theorem dX6_returnUnits_31 : decode cX6_returnUnits 31 = .ok (.aload_n 0, 1) := by decide +kernel
theorem dX6_returnUnits_32 : decode cX6_returnUnits 32 = .ok (.getfield 31, 3) := by decide +kernel
theorem dX6_returnUnits_35 : decode cX6_returnUnits 35 = .ok (.getfield 101, 3) := by decide +kernel
theorem dX6_returnUnits_38 : decode cX6_returnUnits 38 = .ok (.iload_n 1, 1) := by decide +kernel
theorem dX6_returnUnits_39 : decode cX6_returnUnits 39 = .ok (.iaload, 1) := by decide +kernel
theorem dX6_returnUnits_40 : decode cX6_returnUnits 40 = .ok (.iconst 2, 1) := by decide +kernel
theorem dX6_returnUnits_41 : decode cX6_returnUnits 41 = .ok (.if_icmp .eq 17, 3) := by decide +kernel
theorem dX6_returnUnits_44 : decode cX6_returnUnits 44 = .ok (.aload_n 0, 1) := by decide +kernel
theorem dX6_returnUnits_45 : decode cX6_returnUnits 45 = .ok (.getfield 31, 3) := by decide +kernel
theorem dX6_returnUnits_48 : decode cX6_returnUnits 48 = .ok (.getfield 109, 3) := by decide +kernel
theorem dX6_returnUnits_51 : decode cX6_returnUnits 51 = .ok (.iload 4, 2) := by decide +kernel
theorem dX6_returnUnits_53 : decode cX6_returnUnits 53 = .ok (.iaload, 1) := by decide +kernel
theorem dX6_returnUnits_54 : decode cX6_returnUnits 54 = .ok (.iload_n 3, 1) := by decide +kernel
theorem dX6_returnUnits_55 : decode cX6_returnUnits 55 = .ok (.if_icmp .ge 6, 3) := by decide +kernel
theorem dX6_returnUnits_58 : decode cX6_returnUnits 58 = .ok (.bipush (-2), 2) := by decide +kernel
theorem dX6_returnUnits_60 : decode cX6_returnUnits 60 = .ok (.ireturn, 1) := by decide +kernel
theorem dX6_returnUnits_61 : decode cX6_returnUnits 61 = .ok (.aload_n 0, 1) := by decide +kernel
theorem dX6_returnUnits_62 : decode cX6_returnUnits 62 = .ok (.getfield 38, 3) := by decide +kernel
theorem dX6_returnUnits_65 : decode cX6_returnUnits 65 = .ok (.invokevirtual 86, 3) := by decide +kernel
theorem dX6_returnUnits_68 : decode cX6_returnUnits 68 = .ok (.iconst 1, 1) := by decide +kernel
theorem dX6_returnUnits_69 : decode cX6_returnUnits 69 = .ok (.if_icmp .ge 6, 3) := by decide +kernel
theorem dX6_returnUnits_72 : decode cX6_returnUnits 72 = .ok (.bipush (-3), 2) := by decide +kernel
theorem dX6_returnUnits_74 : decode cX6_returnUnits 74 = .ok (.ireturn, 1) := by decide +kernel
theorem dX6_returnUnits_75 : decode cX6_returnUnits 75 = .ok (.aload_n 0, 1) := by decide +kernel
theorem dX6_returnUnits_76 : decode cX6_returnUnits 76 = .ok (.iload_n 1, 1) := by decide +kernel
theorem dX6_returnUnits_77 : decode cX6_returnUnits 77 = .ok (.invokevirtual 119, 3) := by decide +kernel
theorem dX6_returnUnits_80 : decode cX6_returnUnits 80 = .ok (.aload_n 0, 1) := by decide +kernel
theorem dX6_returnUnits_81 : decode cX6_returnUnits 81 = .ok (.getfield 31, 3) := by decide +kernel
theorem dX6_returnUnits_84 : decode cX6_returnUnits 84 = .ok (.getfield 109, 3) := by decide +kernel
theorem dX6_returnUnits_87 : decode cX6_returnUnits 87 = .ok (.iload 4, 2) := by decide +kernel
theorem dX6_returnUnits_89 : decode cX6_returnUnits 89 = .ok (.dup2, 1) := by decide +kernel
theorem dX6_returnUnits_90 : decode cX6_returnUnits 90 = .ok (.iaload, 1) := by decide +kernel
theorem dX6_returnUnits_91 : decode cX6_returnUnits 91 = .ok (.iload_n 3, 1) := by decide +kernel
theorem dX6_returnUnits_92 : decode cX6_returnUnits 92 = .ok (.isub, 1) := by decide +kernel
theorem dX6_returnUnits_93 : decode cX6_returnUnits 93 = .ok (.iastore, 1) := by decide +kernel
theorem dX6_returnUnits_94 : decode cX6_returnUnits 94 = .ok (.aload_n 0, 1) := by decide +kernel
theorem dX6_returnUnits_95 : decode cX6_returnUnits 95 = .ok (.iload_n 2, 1) := by decide +kernel
theorem dX6_returnUnits_96 : decode cX6_returnUnits 96 = .ok (.iload_n 3, 1) := by decide +kernel
theorem dX6_returnUnits_97 : decode cX6_returnUnits 97 = .ok (.iconst 1, 1) := by decide +kernel
theorem dX6_returnUnits_98 : decode cX6_returnUnits 98 = .ok (.invokevirtual 126, 3) := by decide +kernel
theorem dX6_returnUnits_101 : decode cX6_returnUnits 101 = .ok (.l2i, 1) := by decide +kernel
theorem dX6_returnUnits_102 : decode cX6_returnUnits 102 = .ok (.ireturn, 1) := by decide +kernel
theorem dX6_breakUnits_0 : decode cX6_breakUnits 0 = .ok (.aload_n 0, 1) := by decide +kernel
theorem dX6_breakUnits_1 : decode cX6_breakUnits 1 = .ok (.iload_n 1, 1) := by decide +kernel
theorem dX6_breakUnits_2 : decode cX6_breakUnits 2 = .ok (.iload_n 2, 1) := by decide +kernel
theorem dX6_breakUnits_3 : decode cX6_breakUnits 3 = .ok (.iload_n 3, 1) := by decide +kernel
theorem dX6_breakUnits_4 : decode cX6_breakUnits 4 = .ok (.invokevirtual 97, 3) := by decide +kernel
theorem dX6_breakUnits_7 : decode cX6_breakUnits 7 = .ok (.ifCond .eq 15, 3) := by decide +kernel
theorem dX6_breakUnits_10 : decode cX6_breakUnits 10 = .ok (.iload 4, 2) := by decide +kernel
theorem dX6_breakUnits_12 : decode cX6_breakUnits 12 = .ok (.ifCond .lt 10, 3) := by decide +kernel
theorem dX6_breakUnits_15 : decode cX6_breakUnits 15 = .ok (.iload 4, 2) := by decide +kernel
theorem dX6_breakUnits_17 : decode cX6_breakUnits 17 = .ok (.bipush 9, 2) := by decide +kernel
theorem dX6_breakUnits_19 : decode cX6_breakUnits 19 = .ok (.if_icmp .le 5, 3) := by decide +kernel
theorem dX6_breakUnits_22 : decode cX6_breakUnits 22 = .ok (.iconst (-1), 1) := by decide +kernel
theorem dX6_breakUnits_23 : decode cX6_breakUnits 23 = .ok (.ireturn, 1) := by decide +kernel
theorem dX6_breakUnits_24 : decode cX6_breakUnits 24 = .ok (.aload_n 0, 1) := by decide +kernel
theorem dX6_breakUnits_25 : decode cX6_breakUnits 25 = .ok (.getfield 31, 3) := by decide +kernel
theorem dX6_breakUnits_28 : decode cX6_breakUnits 28 = .ok (.iload_n 1, 1) := by decide +kernel
theorem dX6_breakUnits_29 : decode cX6_breakUnits 29 = .ok (.iload_n 2, 1) := by decide +kernel
theorem dX6_breakUnits_30 : decode cX6_breakUnits 30 = .ok (.invokevirtual 104, 3) := by decide +kernel
theorem dX6_breakUnits_33 : decode cX6_breakUnits 33 = .ok (.istore 5, 2) := by decide +kernel
theorem dX6_breakUnits_35 : decode cX6_breakUnits 35 = .ok (.aload_n 0, 1) := by decide +kernel
theorem dX6_breakUnits_36 : decode cX6_breakUnits 36 = .ok (.getfield 9, 3) := by decide +kernel
theorem dX6_breakUnits_39 : decode cX6_breakUnits 39 = .ok (.ifCond .ne 17, 3) := by decide +kernel
theorem dX6_breakUnits_42 : decode cX6_breakUnits 42 = .ok (.aload_n 0, 1) := by decide +kernel
theorem dX6_breakUnits_43 : decode cX6_breakUnits 43 = .ok (.getfield 31, 3) := by decide +kernel
theorem dX6_breakUnits_46 : decode cX6_breakUnits 46 = .ok (.getfield 109, 3) := by decide +kernel
theorem dX6_breakUnits_49 : decode cX6_breakUnits 49 = .ok (.iload 5, 2) := by decide +kernel
theorem dX6_breakUnits_51 : decode cX6_breakUnits 51 = .ok (.iaload, 1) := by decide +kernel
theorem dX6_breakUnits_52 : decode cX6_breakUnits 52 = .ok (.iload_n 3, 1) := by decide +kernel
theorem dX6_breakUnits_53 : decode cX6_breakUnits 53 = .ok (.if_icmp .ge 6, 3) := by decide +kernel
theorem dX6_breakUnits_56 : decode cX6_breakUnits 56 = .ok (.bipush (-2), 2) := by decide +kernel
theorem dX6_breakUnits_58 : decode cX6_breakUnits 58 = .ok (.ireturn, 1) := by decide +kernel
theorem dX6_breakUnits_59 : decode cX6_breakUnits 59 = .ok (.aload_n 0, 1) := by decide +kernel
theorem dX6_breakUnits_60 : decode cX6_breakUnits 60 = .ok (.getfield 31, 3) := by decide +kernel
theorem dX6_breakUnits_63 : decode cX6_breakUnits 63 = .ok (.getfield 109, 3) := by decide +kernel
theorem dX6_breakUnits_66 : decode cX6_breakUnits 66 = .ok (.iload 5, 2) := by decide +kernel
theorem dX6_breakUnits_68 : decode cX6_breakUnits 68 = .ok (.dup2, 1) := by decide +kernel
theorem dX6_breakUnits_69 : decode cX6_breakUnits 69 = .ok (.iaload, 1) := by decide +kernel
theorem dX6_breakUnits_70 : decode cX6_breakUnits 70 = .ok (.iload_n 3, 1) := by decide +kernel
theorem dX6_breakUnits_71 : decode cX6_breakUnits 71 = .ok (.isub, 1) := by decide +kernel
theorem dX6_breakUnits_72 : decode cX6_breakUnits 72 = .ok (.iastore, 1) := by decide +kernel
theorem dX6_breakUnits_73 : decode cX6_breakUnits 73 = .ok (.iload 4, 2) := by decide +kernel
theorem dX6_breakUnits_75 : decode cX6_breakUnits 75 = .ok (.ifCond .ne 19, 3) := by decide +kernel
theorem dX6_breakUnits_78 : decode cX6_breakUnits 78 = .ok (.aload_n 0, 1) := by decide +kernel
theorem dX6_breakUnits_79 : decode cX6_breakUnits 79 = .ok (.getfield 31, 3) := by decide +kernel
theorem dX6_breakUnits_82 : decode cX6_breakUnits 82 = .ok (.getfield 130, 3) := by decide +kernel
theorem dX6_breakUnits_85 : decode cX6_breakUnits 85 = .ok (.iload 5, 2) := by decide +kernel
theorem dX6_breakUnits_87 : decode cX6_breakUnits 87 = .ok (.dup2, 1) := by decide +kernel
theorem dX6_breakUnits_88 : decode cX6_breakUnits 88 = .ok (.iaload, 1) := by decide +kernel
theorem dX6_breakUnits_89 : decode cX6_breakUnits 89 = .ok (.iload_n 3, 1) := by decide +kernel
theorem dX6_breakUnits_90 : decode cX6_breakUnits 90 = .ok (.iadd, 1) := by decide +kernel
theorem dX6_breakUnits_91 : decode cX6_breakUnits 91 = .ok (.iastore, 1) := by decide +kernel
theorem dX6_breakUnits_92 : decode cX6_breakUnits 92 = .ok (.iconst 0, 1) := by decide +kernel
theorem dX6_breakUnits_93 : decode cX6_breakUnits 93 = .ok (.ireturn, 1) := by decide +kernel
theorem dX6_breakUnits_94 : decode cX6_breakUnits 94 = .ok (.aload_n 0, 1) := by decide +kernel
theorem dX6_breakUnits_95 : decode cX6_breakUnits 95 = .ok (.iload_n 2, 1) := by decide +kernel
theorem dX6_breakUnits_96 : decode cX6_breakUnits 96 = .ok (.iload_n 3, 1) := by decide +kernel
theorem dX6_breakUnits_97 : decode cX6_breakUnits 97 = .ok (.iconst 2, 1) := by decide +kernel
theorem dX6_breakUnits_98 : decode cX6_breakUnits 98 = .ok (.invokevirtual 126, 3) := by decide +kernel
theorem dX6_breakUnits_101 : decode cX6_breakUnits 101 = .ok (.l2i, 1) := by decide +kernel
theorem dX6_breakUnits_102 : decode cX6_breakUnits 102 = .ok (.ireturn, 1) := by decide +kernel
theorem dX6_tearSeal_0 : decode cX6_tearSeal 0 = .ok (.aload_n 0, 1) := by decide +kernel
theorem dX6_tearSeal_1 : decode cX6_tearSeal 1 = .ok (.iload_n 1, 1) := by decide +kernel
theorem dX6_tearSeal_2 : decode cX6_tearSeal 2 = .ok (.invokevirtual 79, 3) := by decide +kernel
theorem dX6_tearSeal_5 : decode cX6_tearSeal 5 = .ok (.ifCond .ne 5, 3) := by decide +kernel
theorem dX6_tearSeal_8 : decode cX6_tearSeal 8 = .ok (.iconst (-1), 1) := by decide +kernel
theorem dX6_tearSeal_9 : decode cX6_tearSeal 9 = .ok (.ireturn, 1) := by decide +kernel
theorem dX6_tearSeal_10 : decode cX6_tearSeal 10 = .ok (.aload_n 0, 1) := by decide +kernel
theorem dX6_tearSeal_11 : decode cX6_tearSeal 11 = .ok (.getfield 31, 3) := by decide +kernel
theorem dX6_tearSeal_14 : decode cX6_tearSeal 14 = .ok (.getfield 101, 3) := by decide +kernel
theorem dX6_tearSeal_17 : decode cX6_tearSeal 17 = .ok (.iload_n 1, 1) := by decide +kernel
theorem dX6_tearSeal_18 : decode cX6_tearSeal 18 = .ok (.iaload, 1) := by decide +kernel
theorem dX6_tearSeal_19 : decode cX6_tearSeal 19 = .ok (.iconst 1, 1) := by decide +kernel
theorem dX6_tearSeal_20 : decode cX6_tearSeal 20 = .ok (.if_icmp .eq 6, 3) := by decide +kernel
theorem dX6_tearSeal_23 : decode cX6_tearSeal 23 = .ok (.bipush (-2), 2) := by decide +kernel
theorem dX6_tearSeal_25 : decode cX6_tearSeal 25 = .ok (.ireturn, 1) := by decide +kernel
theorem dX6_tearSeal_26 : decode cX6_tearSeal 26 = .ok (.aload_n 0, 1) := by decide +kernel
theorem dX6_tearSeal_27 : decode cX6_tearSeal 27 = .ok (.getfield 31, 3) := by decide +kernel
theorem dX6_tearSeal_30 : decode cX6_tearSeal 30 = .ok (.getfield 101, 3) := by decide +kernel
theorem dX6_tearSeal_33 : decode cX6_tearSeal 33 = .ok (.iload_n 1, 1) := by decide +kernel
theorem dX6_tearSeal_34 : decode cX6_tearSeal 34 = .ok (.iconst 2, 1) := by decide +kernel
theorem dX6_tearSeal_35 : decode cX6_tearSeal 35 = .ok (.iastore, 1) := by decide +kernel
theorem dX6_tearSeal_36 : decode cX6_tearSeal 36 = .ok (.aload_n 0, 1) := by decide +kernel
theorem dX6_tearSeal_37 : decode cX6_tearSeal 37 = .ok (.getfield 38, 3) := by decide +kernel
theorem dX6_tearSeal_40 : decode cX6_tearSeal 40 = .ok (.aload_n 0, 1) := by decide +kernel
theorem dX6_tearSeal_41 : decode cX6_tearSeal 41 = .ok (.getfield 31, 3) := by decide +kernel
theorem dX6_tearSeal_44 : decode cX6_tearSeal 44 = .ok (.getfield 133, 3) := by decide +kernel
theorem dX6_tearSeal_47 : decode cX6_tearSeal 47 = .ok (.iload_n 1, 1) := by decide +kernel
theorem dX6_tearSeal_48 : decode cX6_tearSeal 48 = .ok (.iaload, 1) := by decide +kernel
theorem dX6_tearSeal_49 : decode cX6_tearSeal 49 = .ok (.iconst 3, 1) := by decide +kernel
theorem dX6_tearSeal_50 : decode cX6_tearSeal 50 = .ok (.invokevirtual 136, 3) := by decide +kernel
theorem dX6_tearSeal_53 : decode cX6_tearSeal 53 = .ok (.aload_n 0, 1) := by decide +kernel
theorem dX6_tearSeal_54 : decode cX6_tearSeal 54 = .ok (.getfield 31, 3) := by decide +kernel
theorem dX6_tearSeal_57 : decode cX6_tearSeal 57 = .ok (.getfield 133, 3) := by decide +kernel
theorem dX6_tearSeal_60 : decode cX6_tearSeal 60 = .ok (.iload_n 1, 1) := by decide +kernel
theorem dX6_tearSeal_61 : decode cX6_tearSeal 61 = .ok (.iaload, 1) := by decide +kernel
theorem dX6_tearSeal_62 : decode cX6_tearSeal 62 = .ok (.ireturn, 1) := by decide +kernel
theorem dX6_countLocker_0 : decode cX6_countLocker 0 = .ok (.aload_n 0, 1) := by decide +kernel
theorem dX6_countLocker_1 : decode cX6_countLocker 1 = .ok (.iload_n 1, 1) := by decide +kernel
theorem dX6_countLocker_2 : decode cX6_countLocker 2 = .ok (.invokevirtual 79, 3) := by decide +kernel
theorem dX6_countLocker_5 : decode cX6_countLocker 5 = .ok (.ifCond .ne 5, 3) := by decide +kernel
theorem dX6_countLocker_8 : decode cX6_countLocker 8 = .ok (.iconst (-1), 1) := by decide +kernel
theorem dX6_countLocker_9 : decode cX6_countLocker 9 = .ok (.ireturn, 1) := by decide +kernel
theorem dX6_countLocker_10 : decode cX6_countLocker 10 = .ok (.aload_n 0, 1) := by decide +kernel
theorem dX6_countLocker_11 : decode cX6_countLocker 11 = .ok (.getfield 9, 3) := by decide +kernel
theorem dX6_countLocker_14 : decode cX6_countLocker 14 = .ok (.iconst 2, 1) := by decide +kernel
theorem dX6_countLocker_15 : decode cX6_countLocker 15 = .ok (.if_icmp .eq 6, 3) := by decide +kernel
theorem dX6_countLocker_18 : decode cX6_countLocker 18 = .ok (.bipush (-2), 2) := by decide +kernel
theorem dX6_countLocker_20 : decode cX6_countLocker 20 = .ok (.ireturn, 1) := by decide +kernel
theorem dX6_countLocker_21 : decode cX6_countLocker 21 = .ok (.aload_n 0, 1) := by decide +kernel
theorem dX6_countLocker_22 : decode cX6_countLocker 22 = .ok (.getfield 31, 3) := by decide +kernel
theorem dX6_countLocker_25 : decode cX6_countLocker 25 = .ok (.getfield 101, 3) := by decide +kernel
theorem dX6_countLocker_28 : decode cX6_countLocker 28 = .ok (.iload_n 1, 1) := by decide +kernel
theorem dX6_countLocker_29 : decode cX6_countLocker 29 = .ok (.iaload, 1) := by decide +kernel
theorem dX6_countLocker_30 : decode cX6_countLocker 30 = .ok (.iconst 2, 1) := by decide +kernel
theorem dX6_countLocker_31 : decode cX6_countLocker 31 = .ok (.if_icmp .ne 12, 3) := by decide +kernel
theorem dX6_countLocker_34 : decode cX6_countLocker 34 = .ok (.aload_n 0, 1) := by decide +kernel
theorem dX6_countLocker_35 : decode cX6_countLocker 35 = .ok (.getfield 25, 3) := by decide +kernel
theorem dX6_countLocker_38 : decode cX6_countLocker 38 = .ok (.iconst 0, 1) := by decide +kernel
theorem dX6_countLocker_39 : decode cX6_countLocker 39 = .ok (.iaload, 1) := by decide +kernel
theorem dX6_countLocker_40 : decode cX6_countLocker 40 = .ok (.goto 4, 3) := by decide +kernel
theorem dX6_countLocker_43 : decode cX6_countLocker 43 = .ok (.iconst 0, 1) := by decide +kernel
theorem dX6_countLocker_44 : decode cX6_countLocker 44 = .ok (.istore_n 2, 1) := by decide +kernel
theorem dX6_countLocker_45 : decode cX6_countLocker 45 = .ok (.aload_n 0, 1) := by decide +kernel
theorem dX6_countLocker_46 : decode cX6_countLocker 46 = .ok (.iload_n 1, 1) := by decide +kernel
theorem dX6_countLocker_47 : decode cX6_countLocker 47 = .ok (.invokevirtual 140, 3) := by decide +kernel
theorem dX6_countLocker_50 : decode cX6_countLocker 50 = .ok (.iload_n 2, 1) := by decide +kernel
theorem dX6_countLocker_51 : decode cX6_countLocker 51 = .ok (.i2l, 1) := by decide +kernel
theorem dX6_countLocker_52 : decode cX6_countLocker 52 = .ok (.ladd, 1) := by decide +kernel
theorem dX6_countLocker_53 : decode cX6_countLocker 53 = .ok (.lstore_n 3, 1) := by decide +kernel
theorem dX6_countLocker_54 : decode cX6_countLocker 54 = .ok (.aload_n 0, 1) := by decide +kernel
theorem dX6_countLocker_55 : decode cX6_countLocker 55 = .ok (.getfield 38, 3) := by decide +kernel
theorem dX6_countLocker_58 : decode cX6_countLocker 58 = .ok (.invokevirtual 86, 3) := by decide +kernel
theorem dX6_countLocker_61 : decode cX6_countLocker 61 = .ok (.iconst 1, 1) := by decide +kernel
theorem dX6_countLocker_62 : decode cX6_countLocker 62 = .ok (.if_icmp .lt 11, 3) := by decide +kernel
theorem dX6_countLocker_65 : decode cX6_countLocker 65 = .ok (.lload_n 3, 1) := by decide +kernel
theorem dX6_countLocker_66 : decode cX6_countLocker 66 = .ok (.ldc2_w 117, 3) := by decide +kernel
theorem dX6_countLocker_69 : decode cX6_countLocker 69 = .ok (.lcmp, 1) := by decide +kernel
theorem dX6_countLocker_70 : decode cX6_countLocker 70 = .ok (.ifCond .le 6, 3) := by decide +kernel
theorem dX6_countLocker_73 : decode cX6_countLocker 73 = .ok (.bipush (-3), 2) := by decide +kernel
theorem dX6_countLocker_75 : decode cX6_countLocker 75 = .ok (.ireturn, 1) := by decide +kernel
theorem dX6_countLocker_76 : decode cX6_countLocker 76 = .ok (.aload_n 0, 1) := by decide +kernel
theorem dX6_countLocker_77 : decode cX6_countLocker 77 = .ok (.getfield 52, 3) := by decide +kernel
theorem dX6_countLocker_80 : decode cX6_countLocker 80 = .ok (.dup, 1) := by decide +kernel
theorem dX6_countLocker_81 : decode cX6_countLocker 81 = .ok (.getfield 144, 3) := by decide +kernel
theorem dX6_countLocker_84 : decode cX6_countLocker 84 = .ok (.iload_n 2, 1) := by decide +kernel
theorem dX6_countLocker_85 : decode cX6_countLocker 85 = .ok (.i2l, 1) := by decide +kernel
theorem dX6_countLocker_86 : decode cX6_countLocker 86 = .ok (.ladd, 1) := by decide +kernel
theorem dX6_countLocker_87 : decode cX6_countLocker 87 = .ok (.putfield 144, 3) := by decide +kernel
theorem dX6_countLocker_90 : decode cX6_countLocker 90 = .ok (.iconst 0, 1) := by decide +kernel
theorem dX6_countLocker_91 : decode cX6_countLocker 91 = .ok (.istore 5, 2) := by decide +kernel
theorem dX6_countLocker_93 : decode cX6_countLocker 93 = .ok (.iload 5, 2) := by decide +kernel
theorem dX6_countLocker_95 : decode cX6_countLocker 95 = .ok (.aload_n 0, 1) := by decide +kernel
theorem dX6_countLocker_96 : decode cX6_countLocker 96 = .ok (.getfield 18, 3) := by decide +kernel
theorem dX6_countLocker_99 : decode cX6_countLocker 99 = .ok (.if_icmp .ge 50, 3) := by decide +kernel
theorem dX6_countLocker_102 : decode cX6_countLocker 102 = .ok (.aload_n 0, 1) := by decide +kernel
theorem dX6_countLocker_103 : decode cX6_countLocker 103 = .ok (.getfield 31, 3) := by decide +kernel
theorem dX6_countLocker_106 : decode cX6_countLocker 106 = .ok (.iload_n 1, 1) := by decide +kernel
theorem dX6_countLocker_107 : decode cX6_countLocker 107 = .ok (.iload 5, 2) := by decide +kernel
theorem dX6_countLocker_109 : decode cX6_countLocker 109 = .ok (.invokevirtual 104, 3) := by decide +kernel
theorem dX6_countLocker_112 : decode cX6_countLocker 112 = .ok (.istore 6, 2) := by decide +kernel
theorem dX6_countLocker_114 : decode cX6_countLocker 114 = .ok (.aload_n 0, 1) := by decide +kernel
theorem dX6_countLocker_115 : decode cX6_countLocker 115 = .ok (.iload 5, 2) := by decide +kernel
theorem dX6_countLocker_117 : decode cX6_countLocker 117 = .ok (.aload_n 0, 1) := by decide +kernel
theorem dX6_countLocker_118 : decode cX6_countLocker 118 = .ok (.getfield 31, 3) := by decide +kernel
theorem dX6_countLocker_121 : decode cX6_countLocker 121 = .ok (.getfield 130, 3) := by decide +kernel
theorem dX6_countLocker_124 : decode cX6_countLocker 124 = .ok (.iload 6, 2) := by decide +kernel
theorem dX6_countLocker_126 : decode cX6_countLocker 126 = .ok (.iaload, 1) := by decide +kernel
theorem dX6_countLocker_127 : decode cX6_countLocker 127 = .ok (.iconst 3, 1) := by decide +kernel
theorem dX6_countLocker_128 : decode cX6_countLocker 128 = .ok (.invokevirtual 126, 3) := by decide +kernel
theorem dX6_countLocker_131 : decode cX6_countLocker 131 = .ok (.pop2, 1) := by decide +kernel
theorem dX6_countLocker_132 : decode cX6_countLocker 132 = .ok (.aload_n 0, 1) := by decide +kernel
theorem dX6_countLocker_133 : decode cX6_countLocker 133 = .ok (.getfield 31, 3) := by decide +kernel
theorem dX6_countLocker_136 : decode cX6_countLocker 136 = .ok (.getfield 130, 3) := by decide +kernel
theorem dX6_countLocker_139 : decode cX6_countLocker 139 = .ok (.iload 6, 2) := by decide +kernel
theorem dX6_countLocker_141 : decode cX6_countLocker 141 = .ok (.iconst 0, 1) := by decide +kernel
theorem dX6_countLocker_142 : decode cX6_countLocker 142 = .ok (.iastore, 1) := by decide +kernel
theorem dX6_countLocker_143 : decode cX6_countLocker 143 = .ok (.iinc 5 1, 3) := by decide +kernel
theorem dX6_countLocker_146 : decode cX6_countLocker 146 = .ok (.goto (-53), 3) := by decide +kernel
theorem dX6_countLocker_149 : decode cX6_countLocker 149 = .ok (.aload_n 0, 1) := by decide +kernel
theorem dX6_countLocker_150 : decode cX6_countLocker 150 = .ok (.iload_n 1, 1) := by decide +kernel
theorem dX6_countLocker_151 : decode cX6_countLocker 151 = .ok (.invokevirtual 119, 3) := by decide +kernel
theorem dX6_countLocker_154 : decode cX6_countLocker 154 = .ok (.lload_n 3, 1) := by decide +kernel
theorem dX6_countLocker_155 : decode cX6_countLocker 155 = .ok (.l2i, 1) := by decide +kernel
theorem dX6_countLocker_156 : decode cX6_countLocker 156 = .ok (.ireturn, 1) := by decide +kernel
theorem dX6_crossTo_0 : decode cX6_crossTo 0 = .ok (.iload_n 1, 1) := by decide +kernel
theorem dX6_crossTo_1 : decode cX6_crossTo 1 = .ok (.ifCond .lt 8, 3) := by decide +kernel
theorem dX6_crossTo_4 : decode cX6_crossTo 4 = .ok (.iload_n 1, 1) := by decide +kernel
theorem dX6_crossTo_5 : decode cX6_crossTo 5 = .ok (.iconst 2, 1) := by decide +kernel
theorem dX6_crossTo_6 : decode cX6_crossTo 6 = .ok (.if_icmp .le 5, 3) := by decide +kernel
theorem dX6_crossTo_9 : decode cX6_crossTo 9 = .ok (.iconst (-1), 1) := by decide +kernel
theorem dX6_crossTo_10 : decode cX6_crossTo 10 = .ok (.ireturn, 1) := by decide +kernel
theorem dX6_crossTo_11 : decode cX6_crossTo 11 = .ok (.iload_n 1, 1) := by decide +kernel
theorem dX6_crossTo_12 : decode cX6_crossTo 12 = .ok (.aload_n 0, 1) := by decide +kernel
theorem dX6_crossTo_13 : decode cX6_crossTo 13 = .ok (.getfield 9, 3) := by decide +kernel
theorem dX6_crossTo_16 : decode cX6_crossTo 16 = .ok (.if_icmp .eq 16, 3) := by decide +kernel
theorem dX6_crossTo_19 : decode cX6_crossTo 19 = .ok (.iload_n 1, 1) := by decide +kernel
theorem dX6_crossTo_20 : decode cX6_crossTo 20 = .ok (.iconst 1, 1) := by decide +kernel
theorem dX6_crossTo_21 : decode cX6_crossTo 21 = .ok (.if_icmp .eq 14, 3) := by decide +kernel
theorem dX6_crossTo_24 : decode cX6_crossTo 24 = .ok (.aload_n 0, 1) := by decide +kernel
theorem dX6_crossTo_25 : decode cX6_crossTo 25 = .ok (.getfield 9, 3) := by decide +kernel
theorem dX6_crossTo_28 : decode cX6_crossTo 28 = .ok (.iconst 1, 1) := by decide +kernel
theorem dX6_crossTo_29 : decode cX6_crossTo 29 = .ok (.if_icmp .eq 6, 3) := by decide +kernel
theorem dX6_crossTo_32 : decode cX6_crossTo 32 = .ok (.bipush (-2), 2) := by decide +kernel
theorem dX6_crossTo_34 : decode cX6_crossTo 34 = .ok (.ireturn, 1) := by decide +kernel
theorem dX6_crossTo_35 : decode cX6_crossTo 35 = .ok (.aload_n 0, 1) := by decide +kernel
theorem dX6_crossTo_36 : decode cX6_crossTo 36 = .ok (.getfield 9, 3) := by decide +kernel
theorem dX6_crossTo_39 : decode cX6_crossTo 39 = .ok (.ifCond .ne 24, 3) := by decide +kernel
theorem dX6_crossTo_42 : decode cX6_crossTo 42 = .ok (.aload_n 0, 1) := by decide +kernel
theorem dX6_crossTo_43 : decode cX6_crossTo 43 = .ok (.getfield 38, 3) := by decide +kernel
theorem dX6_crossTo_46 : decode cX6_crossTo 46 = .ok (.invokevirtual 86, 3) := by decide +kernel
theorem dX6_crossTo_49 : decode cX6_crossTo 49 = .ok (.aload_n 0, 1) := by decide +kernel
theorem dX6_crossTo_50 : decode cX6_crossTo 50 = .ok (.getfield 31, 3) := by decide +kernel
theorem dX6_crossTo_53 : decode cX6_crossTo 53 = .ok (.iconst 0, 1) := by decide +kernel
theorem dX6_crossTo_54 : decode cX6_crossTo 54 = .ok (.invokevirtual 147, 3) := by decide +kernel
theorem dX6_crossTo_57 : decode cX6_crossTo 57 = .ok (.if_icmp .ge 6, 3) := by decide +kernel
theorem dX6_crossTo_60 : decode cX6_crossTo 60 = .ok (.bipush (-3), 2) := by decide +kernel
theorem dX6_crossTo_62 : decode cX6_crossTo 62 = .ok (.ireturn, 1) := by decide +kernel
theorem dX6_crossTo_63 : decode cX6_crossTo 63 = .ok (.aload_n 0, 1) := by decide +kernel
theorem dX6_crossTo_64 : decode cX6_crossTo 64 = .ok (.getfield 9, 3) := by decide +kernel
theorem dX6_crossTo_67 : decode cX6_crossTo 67 = .ok (.istore_n 2, 1) := by decide +kernel
theorem dX6_crossTo_68 : decode cX6_crossTo 68 = .ok (.aload_n 0, 1) := by decide +kernel
theorem dX6_crossTo_69 : decode cX6_crossTo 69 = .ok (.iload_n 1, 1) := by decide +kernel
theorem dX6_crossTo_70 : decode cX6_crossTo 70 = .ok (.putfield 9, 3) := by decide +kernel
theorem dX6_crossTo_73 : decode cX6_crossTo 73 = .ok (.iload_n 2, 1) := by decide +kernel
theorem dX6_crossTo_74 : decode cX6_crossTo 74 = .ok (.ifCond .ne 8, 3) := by decide +kernel
theorem dX6_crossTo_77 : decode cX6_crossTo 77 = .ok (.aload_n 0, 1) := by decide +kernel
theorem dX6_crossTo_78 : decode cX6_crossTo 78 = .ok (.invokevirtual 151, 3) := by decide +kernel
theorem dX6_crossTo_81 : decode cX6_crossTo 81 = .ok (.ireturn, 1) := by decide +kernel
theorem dX6_crossTo_82 : decode cX6_crossTo 82 = .ok (.iload_n 1, 1) := by decide +kernel
theorem dX6_crossTo_83 : decode cX6_crossTo 83 = .ok (.ifCond .ne 10, 3) := by decide +kernel
theorem dX6_crossTo_86 : decode cX6_crossTo 86 = .ok (.aload_n 0, 1) := by decide +kernel
theorem dX6_crossTo_87 : decode cX6_crossTo 87 = .ok (.invokevirtual 154, 3) := by decide +kernel
theorem dX6_crossTo_90 : decode cX6_crossTo 90 = .ok (.goto 4, 3) := by decide +kernel
theorem dX6_crossTo_93 : decode cX6_crossTo 93 = .ok (.iconst 0, 1) := by decide +kernel
theorem dX6_crossTo_94 : decode cX6_crossTo 94 = .ok (.ireturn, 1) := by decide +kernel
theorem dX6_passDays_0 : decode cX6_passDays 0 = .ok (.iload_n 1, 1) := by decide +kernel
theorem dX6_passDays_1 : decode cX6_passDays 1 = .ok (.iconst 1, 1) := by decide +kernel
theorem dX6_passDays_2 : decode cX6_passDays 2 = .ok (.if_icmp .lt 9, 3) := by decide +kernel
theorem dX6_passDays_5 : decode cX6_passDays 5 = .ok (.iload_n 1, 1) := by decide +kernel
theorem dX6_passDays_6 : decode cX6_passDays 6 = .ok (.bipush 60, 2) := by decide +kernel
theorem dX6_passDays_8 : decode cX6_passDays 8 = .ok (.if_icmp .le 5, 3) := by decide +kernel
theorem dX6_passDays_11 : decode cX6_passDays 11 = .ok (.iconst (-1), 1) := by decide +kernel
theorem dX6_passDays_12 : decode cX6_passDays 12 = .ok (.ireturn, 1) := by decide +kernel
theorem dX6_passDays_13 : decode cX6_passDays 13 = .ok (.aload_n 0, 1) := by decide +kernel
theorem dX6_passDays_14 : decode cX6_passDays 14 = .ok (.getfield 15, 3) := by decide +kernel
theorem dX6_passDays_17 : decode cX6_passDays 17 = .ok (.iload_n 1, 1) := by decide +kernel
theorem dX6_passDays_18 : decode cX6_passDays 18 = .ok (.iadd, 1) := by decide +kernel
theorem dX6_passDays_19 : decode cX6_passDays 19 = .ok (.sipush 5000, 3) := by decide +kernel
theorem dX6_passDays_22 : decode cX6_passDays 22 = .ok (.if_icmp .le 6, 3) := by decide +kernel
theorem dX6_passDays_25 : decode cX6_passDays 25 = .ok (.bipush (-3), 2) := by decide +kernel
theorem dX6_passDays_27 : decode cX6_passDays 27 = .ok (.ireturn, 1) := by decide +kernel
theorem dX6_passDays_28 : decode cX6_passDays 28 = .ok (.aload_n 0, 1) := by decide +kernel
theorem dX6_passDays_29 : decode cX6_passDays 29 = .ok (.dup, 1) := by decide +kernel
theorem dX6_passDays_30 : decode cX6_passDays 30 = .ok (.getfield 15, 3) := by decide +kernel
theorem dX6_passDays_33 : decode cX6_passDays 33 = .ok (.iload_n 1, 1) := by decide +kernel
theorem dX6_passDays_34 : decode cX6_passDays 34 = .ok (.iadd, 1) := by decide +kernel
theorem dX6_passDays_35 : decode cX6_passDays 35 = .ok (.putfield 15, 3) := by decide +kernel
theorem dX6_passDays_38 : decode cX6_passDays 38 = .ok (.aload_n 0, 1) := by decide +kernel
theorem dX6_passDays_39 : decode cX6_passDays 39 = .ok (.invokevirtual 157, 3) := by decide +kernel
theorem dX6_passDays_42 : decode cX6_passDays 42 = .ok (.l2i, 1) := by decide +kernel
theorem dX6_passDays_43 : decode cX6_passDays 43 = .ok (.ireturn, 1) := by decide +kernel
theorem dX6_changeSetting_0 : decode cX6_changeSetting 0 = .ok (.iload_n 1, 1) := by decide +kernel
theorem dX6_changeSetting_1 : decode cX6_changeSetting 1 = .ok (.ifCond .lt 8, 3) := by decide +kernel
theorem dX6_changeSetting_4 : decode cX6_changeSetting 4 = .ok (.iload_n 1, 1) := by decide +kernel
theorem dX6_changeSetting_5 : decode cX6_changeSetting 5 = .ok (.iconst 2, 1) := by decide +kernel
theorem dX6_changeSetting_6 : decode cX6_changeSetting 6 = .ok (.if_icmp .lt 5, 3) := by decide +kernel
theorem dX6_changeSetting_9 : decode cX6_changeSetting 9 = .ok (.iconst (-1), 1) := by decide +kernel
theorem dX6_changeSetting_10 : decode cX6_changeSetting 10 = .ok (.ireturn, 1) := by decide +kernel
theorem dX6_changeSetting_11 : decode cX6_changeSetting 11 = .ok (.iload_n 1, 1) := by decide +kernel
theorem dX6_changeSetting_12 : decode cX6_changeSetting 12 = .ok (.ifCond .ne 7, 3) := by decide +kernel
theorem dX6_changeSetting_15 : decode cX6_changeSetting 15 = .ok (.iconst 0, 1) := by decide +kernel
theorem dX6_changeSetting_16 : decode cX6_changeSetting 16 = .ok (.goto 4, 3) := by decide +kernel
theorem dX6_changeSetting_19 : decode cX6_changeSetting 19 = .ok (.iconst 1, 1) := by decide +kernel
theorem dX6_changeSetting_20 : decode cX6_changeSetting 20 = .ok (.istore_n 3, 1) := by decide +kernel
theorem dX6_changeSetting_21 : decode cX6_changeSetting 21 = .ok (.iload_n 1, 1) := by decide +kernel
theorem dX6_changeSetting_22 : decode cX6_changeSetting 22 = .ok (.ifCond .ne 8, 3) := by decide +kernel
theorem dX6_changeSetting_25 : decode cX6_changeSetting 25 = .ok (.ldc 161, 2) := by decide +kernel
theorem dX6_changeSetting_27 : decode cX6_changeSetting 27 = .ok (.goto 5, 3) := by decide +kernel
theorem dX6_changeSetting_30 : decode cX6_changeSetting 30 = .ok (.bipush 99, 2) := by decide +kernel
theorem dX6_changeSetting_32 : decode cX6_changeSetting 32 = .ok (.istore 4, 2) := by decide +kernel
theorem dX6_changeSetting_34 : decode cX6_changeSetting 34 = .ok (.iload_n 2, 1) := by decide +kernel
theorem dX6_changeSetting_35 : decode cX6_changeSetting 35 = .ok (.iload_n 3, 1) := by decide +kernel
theorem dX6_changeSetting_36 : decode cX6_changeSetting 36 = .ok (.if_icmp .lt 9, 3) := by decide +kernel
theorem dX6_changeSetting_39 : decode cX6_changeSetting 39 = .ok (.iload_n 2, 1) := by decide +kernel
theorem dX6_changeSetting_40 : decode cX6_changeSetting 40 = .ok (.iload 4, 2) := by decide +kernel
theorem dX6_changeSetting_42 : decode cX6_changeSetting 42 = .ok (.if_icmp .le 5, 3) := by decide +kernel
theorem dX6_changeSetting_45 : decode cX6_changeSetting 45 = .ok (.iconst (-1), 1) := by decide +kernel
theorem dX6_changeSetting_46 : decode cX6_changeSetting 46 = .ok (.ireturn, 1) := by decide +kernel
theorem dX6_changeSetting_47 : decode cX6_changeSetting 47 = .ok (.aload_n 0, 1) := by decide +kernel
theorem dX6_changeSetting_48 : decode cX6_changeSetting 48 = .ok (.getfield 25, 3) := by decide +kernel
theorem dX6_changeSetting_51 : decode cX6_changeSetting 51 = .ok (.iload_n 1, 1) := by decide +kernel
theorem dX6_changeSetting_52 : decode cX6_changeSetting 52 = .ok (.iaload, 1) := by decide +kernel
theorem dX6_changeSetting_53 : decode cX6_changeSetting 53 = .ok (.istore 5, 2) := by decide +kernel
theorem dX6_changeSetting_55 : decode cX6_changeSetting 55 = .ok (.aload_n 0, 1) := by decide +kernel
theorem dX6_changeSetting_56 : decode cX6_changeSetting 56 = .ok (.getfield 25, 3) := by decide +kernel
theorem dX6_changeSetting_59 : decode cX6_changeSetting 59 = .ok (.iload_n 1, 1) := by decide +kernel
theorem dX6_changeSetting_60 : decode cX6_changeSetting 60 = .ok (.iload_n 2, 1) := by decide +kernel
theorem dX6_changeSetting_61 : decode cX6_changeSetting 61 = .ok (.iastore, 1) := by decide +kernel
theorem dX6_changeSetting_62 : decode cX6_changeSetting 62 = .ok (.iload 5, 2) := by decide +kernel
theorem dX6_changeSetting_64 : decode cX6_changeSetting 64 = .ok (.ireturn, 1) := by decide +kernel
theorem dX6_toPayForAll_0 : decode cX6_toPayForAll 0 = .ok (.aload_n 0, 1) := by decide +kernel
theorem dX6_toPayForAll_1 : decode cX6_toPayForAll 1 = .ok (.getfield 31, 3) := by decide +kernel
theorem dX6_toPayForAll_4 : decode cX6_toPayForAll 4 = .ok (.iconst 2, 1) := by decide +kernel
theorem dX6_toPayForAll_5 : decode cX6_toPayForAll 5 = .ok (.invokevirtual 147, 3) := by decide +kernel
theorem dX6_toPayForAll_8 : decode cX6_toPayForAll 8 = .ok (.i2l, 1) := by decide +kernel
theorem dX6_toPayForAll_9 : decode cX6_toPayForAll 9 = .ok (.aload_n 0, 1) := by decide +kernel
theorem dX6_toPayForAll_10 : decode cX6_toPayForAll 10 = .ok (.getfield 25, 3) := by decide +kernel
theorem dX6_toPayForAll_13 : decode cX6_toPayForAll 13 = .ok (.iconst 0, 1) := by decide +kernel
theorem dX6_toPayForAll_14 : decode cX6_toPayForAll 14 = .ok (.iaload, 1) := by decide +kernel
theorem dX6_toPayForAll_15 : decode cX6_toPayForAll 15 = .ok (.i2l, 1) := by decide +kernel
theorem dX6_toPayForAll_16 : decode cX6_toPayForAll 16 = .ok (.lmul, 1) := by decide +kernel
theorem dX6_toPayForAll_17 : decode cX6_toPayForAll 17 = .ok (.lstore_n 1, 1) := by decide +kernel
theorem dX6_toPayForAll_18 : decode cX6_toPayForAll 18 = .ok (.iconst 0, 1) := by decide +kernel
theorem dX6_toPayForAll_19 : decode cX6_toPayForAll 19 = .ok (.istore_n 3, 1) := by decide +kernel
theorem dX6_toPayForAll_20 : decode cX6_toPayForAll 20 = .ok (.iload_n 3, 1) := by decide +kernel
theorem dX6_toPayForAll_21 : decode cX6_toPayForAll 21 = .ok (.aload_n 0, 1) := by decide +kernel
theorem dX6_toPayForAll_22 : decode cX6_toPayForAll 22 = .ok (.getfield 18, 3) := by decide +kernel
theorem dX6_toPayForAll_25 : decode cX6_toPayForAll 25 = .ok (.if_icmp .ge 36, 3) := by decide +kernel
theorem dX6_toPayForAll_28 : decode cX6_toPayForAll 28 = .ok (.lload_n 1, 1) := by decide +kernel
theorem dX6_toPayForAll_29 : decode cX6_toPayForAll 29 = .ok (.aload_n 0, 1) := by decide +kernel
theorem dX6_toPayForAll_30 : decode cX6_toPayForAll 30 = .ok (.getfield 45, 3) := by decide +kernel
theorem dX6_toPayForAll_33 : decode cX6_toPayForAll 33 = .ok (.iload_n 3, 1) := by decide +kernel
theorem dX6_toPayForAll_34 : decode cX6_toPayForAll 34 = .ok (.aload_n 0, 1) := by decide +kernel
theorem dX6_toPayForAll_35 : decode cX6_toPayForAll 35 = .ok (.getfield 31, 3) := by decide +kernel
theorem dX6_toPayForAll_38 : decode cX6_toPayForAll 38 = .ok (.aload_n 0, 1) := by decide +kernel
theorem dX6_toPayForAll_39 : decode cX6_toPayForAll 39 = .ok (.getfield 31, 3) := by decide +kernel
theorem dX6_toPayForAll_42 : decode cX6_toPayForAll 42 = .ok (.getfield 130, 3) := by decide +kernel
theorem dX6_toPayForAll_45 : decode cX6_toPayForAll 45 = .ok (.iload_n 3, 1) := by decide +kernel
theorem dX6_toPayForAll_46 : decode cX6_toPayForAll 46 = .ok (.invokevirtual 162, 3) := by decide +kernel
theorem dX6_toPayForAll_49 : decode cX6_toPayForAll 49 = .ok (.iconst 0, 1) := by decide +kernel
theorem dX6_toPayForAll_50 : decode cX6_toPayForAll 50 = .ok (.invokevirtual 166, 3) := by decide +kernel
theorem dX6_toPayForAll_53 : decode cX6_toPayForAll 53 = .ok (.ladd, 1) := by decide +kernel
theorem dX6_toPayForAll_54 : decode cX6_toPayForAll 54 = .ok (.lstore_n 1, 1) := by decide +kernel
theorem dX6_toPayForAll_55 : decode cX6_toPayForAll 55 = .ok (.iinc 3 1, 3) := by decide +kernel
theorem dX6_toPayForAll_58 : decode cX6_toPayForAll 58 = .ok (.goto (-38), 3) := by decide +kernel
theorem dX6_toPayForAll_61 : decode cX6_toPayForAll 61 = .ok (.lload_n 1, 1) := by decide +kernel
theorem dX6_toPayForAll_62 : decode cX6_toPayForAll 62 = .ok (.lreturn, 1) := by decide +kernel
theorem dX6_release_0 : decode cX6_release 0 = .ok (.aload_n 0, 1) := by decide +kernel
theorem dX6_release_1 : decode cX6_release 1 = .ok (.getfield 45, 3) := by decide +kernel
theorem dX6_release_4 : decode cX6_release 4 = .ok (.iload_n 1, 1) := by decide +kernel
theorem dX6_release_5 : decode cX6_release 5 = .ok (.iload_n 2, 1) := by decide +kernel
theorem dX6_release_6 : decode cX6_release 6 = .ok (.iconst 1, 1) := by decide +kernel
theorem dX6_release_7 : decode cX6_release 7 = .ok (.invokevirtual 166, 3) := by decide +kernel
theorem dX6_release_10 : decode cX6_release 10 = .ok (.lstore 4, 2) := by decide +kernel
theorem dX6_release_12 : decode cX6_release 12 = .ok (.aload_n 0, 1) := by decide +kernel
theorem dX6_release_13 : decode cX6_release 13 = .ok (.getfield 52, 3) := by decide +kernel
theorem dX6_release_16 : decode cX6_release 16 = .ok (.iload_n 1, 1) := by decide +kernel
theorem dX6_release_17 : decode cX6_release 17 = .ok (.iload_n 3, 1) := by decide +kernel
theorem dX6_release_18 : decode cX6_release 18 = .ok (.iload_n 2, 1) := by decide +kernel
theorem dX6_release_19 : decode cX6_release 19 = .ok (.lload 4, 2) := by decide +kernel
theorem dX6_release_21 : decode cX6_release 21 = .ok (.invokevirtual 170, 3) := by decide +kernel
theorem dX6_release_24 : decode cX6_release 24 = .ok (.lload 4, 2) := by decide +kernel
theorem dX6_release_26 : decode cX6_release 26 = .ok (.lreturn, 1) := by decide +kernel
theorem dX6_taxesOf_0 : decode cX6_taxesOf 0 = .ok (.lconst 0, 1) := by decide +kernel
theorem dX6_taxesOf_1 : decode cX6_taxesOf 1 = .ok (.lstore_n 2, 1) := by decide +kernel
theorem dX6_taxesOf_2 : decode cX6_taxesOf 2 = .ok (.iconst 0, 1) := by decide +kernel
theorem dX6_taxesOf_3 : decode cX6_taxesOf 3 = .ok (.istore 4, 2) := by decide +kernel
theorem dX6_taxesOf_5 : decode cX6_taxesOf 5 = .ok (.iload 4, 2) := by decide +kernel
theorem dX6_taxesOf_7 : decode cX6_taxesOf 7 = .ok (.aload_n 0, 1) := by decide +kernel
theorem dX6_taxesOf_8 : decode cX6_taxesOf 8 = .ok (.getfield 18, 3) := by decide +kernel
theorem dX6_taxesOf_11 : decode cX6_taxesOf 11 = .ok (.if_icmp .ge 40, 3) := by decide +kernel
theorem dX6_taxesOf_14 : decode cX6_taxesOf 14 = .ok (.lload_n 2, 1) := by decide +kernel
theorem dX6_taxesOf_15 : decode cX6_taxesOf 15 = .ok (.aload_n 0, 1) := by decide +kernel
theorem dX6_taxesOf_16 : decode cX6_taxesOf 16 = .ok (.getfield 45, 3) := by decide +kernel
theorem dX6_taxesOf_19 : decode cX6_taxesOf 19 = .ok (.iload 4, 2) := by decide +kernel
theorem dX6_taxesOf_21 : decode cX6_taxesOf 21 = .ok (.aload_n 0, 1) := by decide +kernel
theorem dX6_taxesOf_22 : decode cX6_taxesOf 22 = .ok (.getfield 31, 3) := by decide +kernel
theorem dX6_taxesOf_25 : decode cX6_taxesOf 25 = .ok (.getfield 130, 3) := by decide +kernel
theorem dX6_taxesOf_28 : decode cX6_taxesOf 28 = .ok (.aload_n 0, 1) := by decide +kernel
theorem dX6_taxesOf_29 : decode cX6_taxesOf 29 = .ok (.getfield 31, 3) := by decide +kernel
theorem dX6_taxesOf_32 : decode cX6_taxesOf 32 = .ok (.iload_n 1, 1) := by decide +kernel
theorem dX6_taxesOf_33 : decode cX6_taxesOf 33 = .ok (.iload 4, 2) := by decide +kernel
theorem dX6_taxesOf_35 : decode cX6_taxesOf 35 = .ok (.invokevirtual 104, 3) := by decide +kernel
theorem dX6_taxesOf_38 : decode cX6_taxesOf 38 = .ok (.iaload, 1) := by decide +kernel
theorem dX6_taxesOf_39 : decode cX6_taxesOf 39 = .ok (.iconst 0, 1) := by decide +kernel
theorem dX6_taxesOf_40 : decode cX6_taxesOf 40 = .ok (.invokevirtual 166, 3) := by decide +kernel
theorem dX6_taxesOf_43 : decode cX6_taxesOf 43 = .ok (.ladd, 1) := by decide +kernel
theorem dX6_taxesOf_44 : decode cX6_taxesOf 44 = .ok (.lstore_n 2, 1) := by decide +kernel
theorem dX6_taxesOf_45 : decode cX6_taxesOf 45 = .ok (.iinc 4 1, 3) := by decide +kernel
theorem dX6_taxesOf_48 : decode cX6_taxesOf 48 = .ok (.goto (-43), 3) := by decide +kernel
theorem dX6_taxesOf_51 : decode cX6_taxesOf 51 = .ok (.lload_n 2, 1) := by decide +kernel
theorem dX6_taxesOf_52 : decode cX6_taxesOf 52 = .ok (.lreturn, 1) := by decide +kernel
theorem dX6_runOutBonds_0 : decode cX6_runOutBonds 0 = .ok (.lconst 0, 1) := by decide +kernel
theorem dX6_runOutBonds_1 : decode cX6_runOutBonds 1 = .ok (.lstore_n 1, 1) := by decide +kernel
theorem dX6_runOutBonds_2 : decode cX6_runOutBonds 2 = .ok (.iconst 0, 1) := by decide +kernel
theorem dX6_runOutBonds_3 : decode cX6_runOutBonds 3 = .ok (.istore_n 3, 1) := by decide +kernel
theorem dX6_runOutBonds_4 : decode cX6_runOutBonds 4 = .ok (.iload_n 3, 1) := by decide +kernel
theorem dX6_runOutBonds_5 : decode cX6_runOutBonds 5 = .ok (.aload_n 0, 1) := by decide +kernel
theorem dX6_runOutBonds_6 : decode cX6_runOutBonds 6 = .ok (.getfield 45, 3) := by decide +kernel
theorem dX6_runOutBonds_9 : decode cX6_runOutBonds 9 = .ok (.getfield 108, 3) := by decide +kernel
theorem dX6_runOutBonds_12 : decode cX6_runOutBonds 12 = .ok (.if_icmp .ge 122, 3) := by decide +kernel
theorem dX6_runOutBonds_15 : decode cX6_runOutBonds 15 = .ok (.aload_n 0, 1) := by decide +kernel
theorem dX6_runOutBonds_16 : decode cX6_runOutBonds 16 = .ok (.getfield 45, 3) := by decide +kernel
theorem dX6_runOutBonds_19 : decode cX6_runOutBonds 19 = .ok (.iconst (-1), 1) := by decide +kernel
theorem dX6_runOutBonds_20 : decode cX6_runOutBonds 20 = .ok (.iconst (-1), 1) := by decide +kernel
theorem dX6_runOutBonds_21 : decode cX6_runOutBonds 21 = .ok (.invokevirtual 173, 3) := by decide +kernel
theorem dX6_runOutBonds_24 : decode cX6_runOutBonds 24 = .ok (.istore 4, 2) := by decide +kernel
theorem dX6_runOutBonds_26 : decode cX6_runOutBonds 26 = .ok (.iload 4, 2) := by decide +kernel
theorem dX6_runOutBonds_28 : decode cX6_runOutBonds 28 = .ok (.iconst (-1), 1) := by decide +kernel
theorem dX6_runOutBonds_29 : decode cX6_runOutBonds 29 = .ok (.if_icmp .eq 105, 3) := by decide +kernel
theorem dX6_runOutBonds_32 : decode cX6_runOutBonds 32 = .ok (.aload_n 0, 1) := by decide +kernel
theorem dX6_runOutBonds_33 : decode cX6_runOutBonds 33 = .ok (.getfield 45, 3) := by decide +kernel
theorem dX6_runOutBonds_36 : decode cX6_runOutBonds 36 = .ok (.getfield 176, 3) := by decide +kernel
theorem dX6_runOutBonds_39 : decode cX6_runOutBonds 39 = .ok (.iload 4, 2) := by decide +kernel
theorem dX6_runOutBonds_41 : decode cX6_runOutBonds 41 = .ok (.iaload, 1) := by decide +kernel
theorem dX6_runOutBonds_42 : decode cX6_runOutBonds 42 = .ok (.aload_n 0, 1) := by decide +kernel
theorem dX6_runOutBonds_43 : decode cX6_runOutBonds 43 = .ok (.getfield 15, 3) := by decide +kernel
theorem dX6_runOutBonds_46 : decode cX6_runOutBonds 46 = .ok (.if_icmp .lt 6, 3) := by decide +kernel
theorem dX6_runOutBonds_49 : decode cX6_runOutBonds 49 = .ok (.goto 85, 3) := by decide +kernel
theorem dX6_runOutBonds_52 : decode cX6_runOutBonds 52 = .ok (.aload_n 0, 1) := by decide +kernel
theorem dX6_runOutBonds_53 : decode cX6_runOutBonds 53 = .ok (.getfield 45, 3) := by decide +kernel
theorem dX6_runOutBonds_56 : decode cX6_runOutBonds 56 = .ok (.getfield 179, 3) := by decide +kernel
theorem dX6_runOutBonds_59 : decode cX6_runOutBonds 59 = .ok (.iload 4, 2) := by decide +kernel
theorem dX6_runOutBonds_61 : decode cX6_runOutBonds 61 = .ok (.iaload, 1) := by decide +kernel
theorem dX6_runOutBonds_62 : decode cX6_runOutBonds 62 = .ok (.istore 5, 2) := by decide +kernel
theorem dX6_runOutBonds_64 : decode cX6_runOutBonds 64 = .ok (.aload_n 0, 1) := by decide +kernel
theorem dX6_runOutBonds_65 : decode cX6_runOutBonds 65 = .ok (.getfield 45, 3) := by decide +kernel
theorem dX6_runOutBonds_68 : decode cX6_runOutBonds 68 = .ok (.getfield 182, 3) := by decide +kernel
theorem dX6_runOutBonds_71 : decode cX6_runOutBonds 71 = .ok (.iload 4, 2) := by decide +kernel
theorem dX6_runOutBonds_73 : decode cX6_runOutBonds 73 = .ok (.iaload, 1) := by decide +kernel
theorem dX6_runOutBonds_74 : decode cX6_runOutBonds 74 = .ok (.istore 6, 2) := by decide +kernel
theorem dX6_runOutBonds_76 : decode cX6_runOutBonds 76 = .ok (.aload_n 0, 1) := by decide +kernel
theorem dX6_runOutBonds_77 : decode cX6_runOutBonds 77 = .ok (.getfield 45, 3) := by decide +kernel
theorem dX6_runOutBonds_80 : decode cX6_runOutBonds 80 = .ok (.iload 4, 2) := by decide +kernel
theorem dX6_runOutBonds_82 : decode cX6_runOutBonds 82 = .ok (.invokevirtual 184, 3) := by decide +kernel
theorem dX6_runOutBonds_85 : decode cX6_runOutBonds 85 = .ok (.lstore 7, 2) := by decide +kernel
theorem dX6_runOutBonds_87 : decode cX6_runOutBonds 87 = .ok (.aload_n 0, 1) := by decide +kernel
theorem dX6_runOutBonds_88 : decode cX6_runOutBonds 88 = .ok (.getfield 45, 3) := by decide +kernel
theorem dX6_runOutBonds_91 : decode cX6_runOutBonds 91 = .ok (.getfield 182, 3) := by decide +kernel
theorem dX6_runOutBonds_94 : decode cX6_runOutBonds 94 = .ok (.iload 4, 2) := by decide +kernel
theorem dX6_runOutBonds_96 : decode cX6_runOutBonds 96 = .ok (.iconst 0, 1) := by decide +kernel
theorem dX6_runOutBonds_97 : decode cX6_runOutBonds 97 = .ok (.iastore, 1) := by decide +kernel
theorem dX6_runOutBonds_98 : decode cX6_runOutBonds 98 = .ok (.aload_n 0, 1) := by decide +kernel
theorem dX6_runOutBonds_99 : decode cX6_runOutBonds 99 = .ok (.getfield 52, 3) := by decide +kernel
theorem dX6_runOutBonds_102 : decode cX6_runOutBonds 102 = .ok (.iload 5, 2) := by decide +kernel
theorem dX6_runOutBonds_104 : decode cX6_runOutBonds 104 = .ok (.iconst 3, 1) := by decide +kernel
theorem dX6_runOutBonds_105 : decode cX6_runOutBonds 105 = .ok (.iload 6, 2) := by decide +kernel
theorem dX6_runOutBonds_107 : decode cX6_runOutBonds 107 = .ok (.lload 7, 2) := by decide +kernel
theorem dX6_runOutBonds_109 : decode cX6_runOutBonds 109 = .ok (.invokevirtual 170, 3) := by decide +kernel
theorem dX6_runOutBonds_112 : decode cX6_runOutBonds 112 = .ok (.aload_n 0, 1) := by decide +kernel
theorem dX6_runOutBonds_113 : decode cX6_runOutBonds 113 = .ok (.getfield 31, 3) := by decide +kernel
theorem dX6_runOutBonds_116 : decode cX6_runOutBonds 116 = .ok (.iload 5, 2) := by decide +kernel
theorem dX6_runOutBonds_118 : decode cX6_runOutBonds 118 = .ok (.iload 6, 2) := by decide +kernel
theorem dX6_runOutBonds_120 : decode cX6_runOutBonds 120 = .ok (.invokevirtual 187, 3) := by decide +kernel
theorem dX6_runOutBonds_123 : decode cX6_runOutBonds 123 = .ok (.lload_n 1, 1) := by decide +kernel
theorem dX6_runOutBonds_124 : decode cX6_runOutBonds 124 = .ok (.lload 7, 2) := by decide +kernel
theorem dX6_runOutBonds_126 : decode cX6_runOutBonds 126 = .ok (.ladd, 1) := by decide +kernel
theorem dX6_runOutBonds_127 : decode cX6_runOutBonds 127 = .ok (.lstore_n 1, 1) := by decide +kernel
theorem dX6_runOutBonds_128 : decode cX6_runOutBonds 128 = .ok (.iinc 3 1, 3) := by decide +kernel
theorem dX6_runOutBonds_131 : decode cX6_runOutBonds 131 = .ok (.goto (-127), 3) := by decide +kernel
theorem dX6_runOutBonds_134 : decode cX6_runOutBonds 134 = .ok (.lload_n 1, 1) := by decide +kernel
theorem dX6_runOutBonds_135 : decode cX6_runOutBonds 135 = .ok (.lreturn, 1) := by decide +kernel
theorem dX6_putSeal_0 : decode cX6_putSeal 0 = .ok (.aload_n 0, 1) := by decide +kernel
theorem dX6_putSeal_1 : decode cX6_putSeal 1 = .ok (.getfield 31, 3) := by decide +kernel
theorem dX6_putSeal_4 : decode cX6_putSeal 4 = .ok (.getfield 101, 3) := by decide +kernel
theorem dX6_putSeal_7 : decode cX6_putSeal 7 = .ok (.iload_n 1, 1) := by decide +kernel
theorem dX6_putSeal_8 : decode cX6_putSeal 8 = .ok (.iconst 1, 1) := by decide +kernel
theorem dX6_putSeal_9 : decode cX6_putSeal 9 = .ok (.iastore, 1) := by decide +kernel
theorem dX6_putSeal_10 : decode cX6_putSeal 10 = .ok (.aload_n 0, 1) := by decide +kernel
theorem dX6_putSeal_11 : decode cX6_putSeal 11 = .ok (.getfield 31, 3) := by decide +kernel
theorem dX6_putSeal_14 : decode cX6_putSeal 14 = .ok (.getfield 133, 3) := by decide +kernel
theorem dX6_putSeal_17 : decode cX6_putSeal 17 = .ok (.iload_n 1, 1) := by decide +kernel
theorem dX6_putSeal_18 : decode cX6_putSeal 18 = .ok (.aload_n 0, 1) := by decide +kernel
theorem dX6_putSeal_19 : decode cX6_putSeal 19 = .ok (.getfield 38, 3) := by decide +kernel
theorem dX6_putSeal_22 : decode cX6_putSeal 22 = .ok (.iload_n 1, 1) := by decide +kernel
theorem dX6_putSeal_23 : decode cX6_putSeal 23 = .ok (.aload_n 0, 1) := by decide +kernel
theorem dX6_putSeal_24 : decode cX6_putSeal 24 = .ok (.getfield 15, 3) := by decide +kernel
theorem dX6_putSeal_27 : decode cX6_putSeal 27 = .ok (.invokevirtual 190, 3) := by decide +kernel
theorem dX6_putSeal_30 : decode cX6_putSeal 30 = .ok (.iastore, 1) := by decide +kernel
theorem dX6_putSeal_31 : decode cX6_putSeal 31 = .ok (.return_, 1) := by decide +kernel
theorem dX6_sealByOfficer_0 : decode cX6_sealByOfficer 0 = .ok (.aload_n 0, 1) := by decide +kernel
theorem dX6_sealByOfficer_1 : decode cX6_sealByOfficer 1 = .ok (.getfield 31, 3) := by decide +kernel
theorem dX6_sealByOfficer_4 : decode cX6_sealByOfficer 4 = .ok (.getfield 101, 3) := by decide +kernel
theorem dX6_sealByOfficer_7 : decode cX6_sealByOfficer 7 = .ok (.iload_n 1, 1) := by decide +kernel
theorem dX6_sealByOfficer_8 : decode cX6_sealByOfficer 8 = .ok (.iaload, 1) := by decide +kernel
theorem dX6_sealByOfficer_9 : decode cX6_sealByOfficer 9 = .ok (.iconst 1, 1) := by decide +kernel
theorem dX6_sealByOfficer_10 : decode cX6_sealByOfficer 10 = .ok (.if_icmp .ne 20, 3) := by decide +kernel
theorem dX6_sealByOfficer_13 : decode cX6_sealByOfficer 13 = .ok (.aload_n 0, 1) := by decide +kernel
theorem dX6_sealByOfficer_14 : decode cX6_sealByOfficer 14 = .ok (.getfield 38, 3) := by decide +kernel
theorem dX6_sealByOfficer_17 : decode cX6_sealByOfficer 17 = .ok (.aload_n 0, 1) := by decide +kernel
theorem dX6_sealByOfficer_18 : decode cX6_sealByOfficer 18 = .ok (.getfield 31, 3) := by decide +kernel
theorem dX6_sealByOfficer_21 : decode cX6_sealByOfficer 21 = .ok (.getfield 133, 3) := by decide +kernel
theorem dX6_sealByOfficer_24 : decode cX6_sealByOfficer 24 = .ok (.iload_n 1, 1) := by decide +kernel
theorem dX6_sealByOfficer_25 : decode cX6_sealByOfficer 25 = .ok (.iaload, 1) := by decide +kernel
theorem dX6_sealByOfficer_26 : decode cX6_sealByOfficer 26 = .ok (.iconst 2, 1) := by decide +kernel
theorem dX6_sealByOfficer_27 : decode cX6_sealByOfficer 27 = .ok (.invokevirtual 136, 3) := by decide +kernel
theorem dX6_sealByOfficer_30 : decode cX6_sealByOfficer 30 = .ok (.aload_n 0, 1) := by decide +kernel
theorem dX6_sealByOfficer_31 : decode cX6_sealByOfficer 31 = .ok (.iload_n 1, 1) := by decide +kernel
theorem dX6_sealByOfficer_32 : decode cX6_sealByOfficer 32 = .ok (.invokevirtual 90, 3) := by decide +kernel
theorem dX6_sealByOfficer_35 : decode cX6_sealByOfficer 35 = .ok (.return_, 1) := by decide +kernel
theorem dX6_sealOpenLockers_0 : decode cX6_sealOpenLockers 0 = .ok (.iconst 0, 1) := by decide +kernel
theorem dX6_sealOpenLockers_1 : decode cX6_sealOpenLockers 1 = .ok (.istore_n 1, 1) := by decide +kernel
theorem dX6_sealOpenLockers_2 : decode cX6_sealOpenLockers 2 = .ok (.iconst 0, 1) := by decide +kernel
theorem dX6_sealOpenLockers_3 : decode cX6_sealOpenLockers 3 = .ok (.istore_n 2, 1) := by decide +kernel
theorem dX6_sealOpenLockers_4 : decode cX6_sealOpenLockers 4 = .ok (.iload_n 2, 1) := by decide +kernel
theorem dX6_sealOpenLockers_5 : decode cX6_sealOpenLockers 5 = .ok (.aload_n 0, 1) := by decide +kernel
theorem dX6_sealOpenLockers_6 : decode cX6_sealOpenLockers 6 = .ok (.getfield 31, 3) := by decide +kernel
theorem dX6_sealOpenLockers_9 : decode cX6_sealOpenLockers 9 = .ok (.getfield 75, 3) := by decide +kernel
theorem dX6_sealOpenLockers_12 : decode cX6_sealOpenLockers 12 = .ok (.if_icmp .ge 29, 3) := by decide +kernel
theorem dX6_sealOpenLockers_15 : decode cX6_sealOpenLockers 15 = .ok (.aload_n 0, 1) := by decide +kernel
theorem dX6_sealOpenLockers_16 : decode cX6_sealOpenLockers 16 = .ok (.getfield 31, 3) := by decide +kernel
theorem dX6_sealOpenLockers_19 : decode cX6_sealOpenLockers 19 = .ok (.getfield 101, 3) := by decide +kernel
theorem dX6_sealOpenLockers_22 : decode cX6_sealOpenLockers 22 = .ok (.iload_n 2, 1) := by decide +kernel
theorem dX6_sealOpenLockers_23 : decode cX6_sealOpenLockers 23 = .ok (.iaload, 1) := by decide +kernel
theorem dX6_sealOpenLockers_24 : decode cX6_sealOpenLockers 24 = .ok (.ifCond .ne 11, 3) := by decide +kernel
theorem dX6_sealOpenLockers_27 : decode cX6_sealOpenLockers 27 = .ok (.aload_n 0, 1) := by decide +kernel
theorem dX6_sealOpenLockers_28 : decode cX6_sealOpenLockers 28 = .ok (.iload_n 2, 1) := by decide +kernel
theorem dX6_sealOpenLockers_29 : decode cX6_sealOpenLockers 29 = .ok (.invokevirtual 90, 3) := by decide +kernel
theorem dX6_sealOpenLockers_32 : decode cX6_sealOpenLockers 32 = .ok (.iinc 1 1, 3) := by decide +kernel
theorem dX6_sealOpenLockers_35 : decode cX6_sealOpenLockers 35 = .ok (.iinc 2 1, 3) := by decide +kernel
theorem dX6_sealOpenLockers_38 : decode cX6_sealOpenLockers 38 = .ok (.goto (-34), 3) := by decide +kernel
theorem dX6_sealOpenLockers_41 : decode cX6_sealOpenLockers 41 = .ok (.iload_n 1, 1) := by decide +kernel
theorem dX6_sealOpenLockers_42 : decode cX6_sealOpenLockers 42 = .ok (.ireturn, 1) := by decide +kernel
theorem dX6_openLockers_0 : decode cX6_openLockers 0 = .ok (.iconst 0, 1) := by decide +kernel
theorem dX6_openLockers_1 : decode cX6_openLockers 1 = .ok (.istore_n 1, 1) := by decide +kernel
theorem dX6_openLockers_2 : decode cX6_openLockers 2 = .ok (.iconst 0, 1) := by decide +kernel
theorem dX6_openLockers_3 : decode cX6_openLockers 3 = .ok (.istore_n 2, 1) := by decide +kernel
theorem dX6_openLockers_4 : decode cX6_openLockers 4 = .ok (.iload_n 2, 1) := by decide +kernel
theorem dX6_openLockers_5 : decode cX6_openLockers 5 = .ok (.aload_n 0, 1) := by decide +kernel
theorem dX6_openLockers_6 : decode cX6_openLockers 6 = .ok (.getfield 31, 3) := by decide +kernel
theorem dX6_openLockers_9 : decode cX6_openLockers 9 = .ok (.getfield 75, 3) := by decide +kernel
theorem dX6_openLockers_12 : decode cX6_openLockers 12 = .ok (.if_icmp .ge 52, 3) := by decide +kernel
theorem dX6_openLockers_15 : decode cX6_openLockers 15 = .ok (.aload_n 0, 1) := by decide +kernel
theorem dX6_openLockers_16 : decode cX6_openLockers 16 = .ok (.getfield 31, 3) := by decide +kernel
theorem dX6_openLockers_19 : decode cX6_openLockers 19 = .ok (.getfield 101, 3) := by decide +kernel
theorem dX6_openLockers_22 : decode cX6_openLockers 22 = .ok (.iload_n 2, 1) := by decide +kernel
theorem dX6_openLockers_23 : decode cX6_openLockers 23 = .ok (.iaload, 1) := by decide +kernel
theorem dX6_openLockers_24 : decode cX6_openLockers 24 = .ok (.iconst 1, 1) := by decide +kernel
theorem dX6_openLockers_25 : decode cX6_openLockers 25 = .ok (.if_icmp .ne 23, 3) := by decide +kernel
theorem dX6_openLockers_28 : decode cX6_openLockers 28 = .ok (.aload_n 0, 1) := by decide +kernel
theorem dX6_openLockers_29 : decode cX6_openLockers 29 = .ok (.getfield 38, 3) := by decide +kernel
theorem dX6_openLockers_32 : decode cX6_openLockers 32 = .ok (.aload_n 0, 1) := by decide +kernel
theorem dX6_openLockers_33 : decode cX6_openLockers 33 = .ok (.getfield 31, 3) := by decide +kernel
theorem dX6_openLockers_36 : decode cX6_openLockers 36 = .ok (.getfield 133, 3) := by decide +kernel
theorem dX6_openLockers_39 : decode cX6_openLockers 39 = .ok (.iload_n 2, 1) := by decide +kernel
theorem dX6_openLockers_40 : decode cX6_openLockers 40 = .ok (.iaload, 1) := by decide +kernel
theorem dX6_openLockers_41 : decode cX6_openLockers 41 = .ok (.iconst 1, 1) := by decide +kernel
theorem dX6_openLockers_42 : decode cX6_openLockers 42 = .ok (.invokevirtual 136, 3) := by decide +kernel
theorem dX6_openLockers_45 : decode cX6_openLockers 45 = .ok (.iinc 1 1, 3) := by decide +kernel
theorem dX6_openLockers_48 : decode cX6_openLockers 48 = .ok (.aload_n 0, 1) := by decide +kernel
theorem dX6_openLockers_49 : decode cX6_openLockers 49 = .ok (.getfield 31, 3) := by decide +kernel
theorem dX6_openLockers_52 : decode cX6_openLockers 52 = .ok (.getfield 101, 3) := by decide +kernel
theorem dX6_openLockers_55 : decode cX6_openLockers 55 = .ok (.iload_n 2, 1) := by decide +kernel
theorem dX6_openLockers_56 : decode cX6_openLockers 56 = .ok (.iconst 0, 1) := by decide +kernel
theorem dX6_openLockers_57 : decode cX6_openLockers 57 = .ok (.iastore, 1) := by decide +kernel
theorem dX6_openLockers_58 : decode cX6_openLockers 58 = .ok (.iinc 2 1, 3) := by decide +kernel
theorem dX6_openLockers_61 : decode cX6_openLockers 61 = .ok (.goto (-57), 3) := by decide +kernel
theorem dX6_openLockers_64 : decode cX6_openLockers 64 = .ok (.iload_n 1, 1) := by decide +kernel
theorem dX6_openLockers_65 : decode cX6_openLockers 65 = .ok (.ireturn, 1) := by decide +kernel
theorem dX7_init_0 : decode cX7_init 0 = .ok (.aload_n 0, 1) := by decide +kernel
theorem dX7_init_1 : decode cX7_init 1 = .ok (.invokespecial 1, 3) := by decide +kernel
theorem dX7_init_4 : decode cX7_init 4 = .ok (.aload_n 0, 1) := by decide +kernel
theorem dX7_init_5 : decode cX7_init 5 = .ok (.new 7, 3) := by decide +kernel
theorem dX7_init_8 : decode cX7_init 8 = .ok (.dup, 1) := by decide +kernel
theorem dX7_init_9 : decode cX7_init 9 = .ok (.invokespecial 9, 3) := by decide +kernel
theorem dX7_init_12 : decode cX7_init 12 = .ok (.putfield 10, 3) := by decide +kernel
theorem dX7_init_15 : decode cX7_init 15 = .ok (.aload_n 0, 1) := by decide +kernel
theorem dX7_init_16 : decode cX7_init 16 = .ok (.new 7, 3) := by decide +kernel
theorem dX7_init_19 : decode cX7_init 19 = .ok (.dup, 1) := by decide +kernel
theorem dX7_init_20 : decode cX7_init 20 = .ok (.invokespecial 9, 3) := by decide +kernel
theorem dX7_init_23 : decode cX7_init 23 = .ok (.putfield 16, 3) := by decide +kernel
theorem dX7_init_26 : decode cX7_init 26 = .ok (.aload_n 0, 1) := by decide +kernel
theorem dX7_init_27 : decode cX7_init 27 = .ok (.new 19, 3) := by decide +kernel
theorem dX7_init_30 : decode cX7_init 30 = .ok (.dup, 1) := by decide +kernel
theorem dX7_init_31 : decode cX7_init 31 = .ok (.invokespecial 21, 3) := by decide +kernel
theorem dX7_init_34 : decode cX7_init 34 = .ok (.putfield 22, 3) := by decide +kernel
theorem dX7_init_37 : decode cX7_init 37 = .ok (.aload_n 0, 1) := by decide +kernel
theorem dX7_init_38 : decode cX7_init 38 = .ok (.new 26, 3) := by decide +kernel
theorem dX7_init_41 : decode cX7_init 41 = .ok (.dup, 1) := by decide +kernel
theorem dX7_init_42 : decode cX7_init 42 = .ok (.invokespecial 28, 3) := by decide +kernel
theorem dX7_init_45 : decode cX7_init 45 = .ok (.putfield 29, 3) := by decide +kernel
theorem dX7_init_48 : decode cX7_init 48 = .ok (.return_, 1) := by decide +kernel
theorem dX7_locker_0 : decode cX7_locker 0 = .ok (.aload_n 0, 1) := by decide +kernel
theorem dX7_locker_1 : decode cX7_locker 1 = .ok (.getfield 22, 3) := by decide +kernel
theorem dX7_locker_4 : decode cX7_locker 4 = .ok (.aload_n 0, 1) := by decide +kernel
theorem dX7_locker_5 : decode cX7_locker 5 = .ok (.getfield 10, 3) := by decide +kernel
theorem dX7_locker_8 : decode cX7_locker 8 = .ok (.invokevirtual 33, 3) := by decide +kernel
theorem dX7_locker_11 : decode cX7_locker 11 = .ok (.aload_n 0, 1) := by decide +kernel
theorem dX7_locker_12 : decode cX7_locker 12 = .ok (.getfield 22, 3) := by decide +kernel
theorem dX7_locker_15 : decode cX7_locker 15 = .ok (.aload_n 0, 1) := by decide +kernel
theorem dX7_locker_16 : decode cX7_locker 16 = .ok (.getfield 10, 3) := by decide +kernel
theorem dX7_locker_19 : decode cX7_locker 19 = .ok (.invokevirtual 37, 3) := by decide +kernel
theorem dX7_locker_22 : decode cX7_locker 22 = .ok (.invokevirtual 41, 3) := by decide +kernel
theorem dX7_locker_25 : decode cX7_locker 25 = .ok (.ireturn, 1) := by decide +kernel
theorem dX7_good_0 : decode cX7_good 0 = .ok (.aload_n 0, 1) := by decide +kernel
theorem dX7_good_1 : decode cX7_good 1 = .ok (.getfield 22, 3) := by decide +kernel
theorem dX7_good_4 : decode cX7_good 4 = .ok (.aload_n 0, 1) := by decide +kernel
theorem dX7_good_5 : decode cX7_good 5 = .ok (.getfield 10, 3) := by decide +kernel
theorem dX7_good_8 : decode cX7_good 8 = .ok (.invokevirtual 33, 3) := by decide +kernel
theorem dX7_good_11 : decode cX7_good 11 = .ok (.aload_n 0, 1) := by decide +kernel
theorem dX7_good_12 : decode cX7_good 12 = .ok (.getfield 22, 3) := by decide +kernel
theorem dX7_good_15 : decode cX7_good 15 = .ok (.aload_n 0, 1) := by decide +kernel
theorem dX7_good_16 : decode cX7_good 16 = .ok (.getfield 10, 3) := by decide +kernel
theorem dX7_good_19 : decode cX7_good 19 = .ok (.iload_n 1, 1) := by decide +kernel
theorem dX7_good_20 : decode cX7_good 20 = .ok (.invokevirtual 45, 3) := by decide +kernel
theorem dX7_good_23 : decode cX7_good 23 = .ok (.invokevirtual 41, 3) := by decide +kernel
theorem dX7_good_26 : decode cX7_good 26 = .ok (.ireturn, 1) := by decide +kernel
theorem dX7_duty_0 : decode cX7_duty 0 = .ok (.aload_n 0, 1) := by decide +kernel
theorem dX7_duty_1 : decode cX7_duty 1 = .ok (.getfield 22, 3) := by decide +kernel
theorem dX7_duty_4 : decode cX7_duty 4 = .ok (.aload_n 0, 1) := by decide +kernel
theorem dX7_duty_5 : decode cX7_duty 5 = .ok (.getfield 10, 3) := by decide +kernel
theorem dX7_duty_8 : decode cX7_duty 8 = .ok (.invokevirtual 33, 3) := by decide +kernel
theorem dX7_duty_11 : decode cX7_duty 11 = .ok (.aload_n 0, 1) := by decide +kernel
theorem dX7_duty_12 : decode cX7_duty 12 = .ok (.getfield 22, 3) := by decide +kernel
theorem dX7_duty_15 : decode cX7_duty 15 = .ok (.aload_n 0, 1) := by decide +kernel
theorem dX7_duty_16 : decode cX7_duty 16 = .ok (.getfield 10, 3) := by decide +kernel
theorem dX7_duty_19 : decode cX7_duty 19 = .ok (.iload_n 1, 1) := by decide +kernel
theorem dX7_duty_20 : decode cX7_duty 20 = .ok (.iload_n 2, 1) := by decide +kernel
theorem dX7_duty_21 : decode cX7_duty 21 = .ok (.invokevirtual 48, 3) := by decide +kernel
theorem dX7_duty_24 : decode cX7_duty 24 = .ok (.invokevirtual 41, 3) := by decide +kernel
theorem dX7_duty_27 : decode cX7_duty 27 = .ok (.ireturn, 1) := by decide +kernel
theorem dX7_load_0 : decode cX7_load 0 = .ok (.aload_n 0, 1) := by decide +kernel
theorem dX7_load_1 : decode cX7_load 1 = .ok (.getfield 22, 3) := by decide +kernel
theorem dX7_load_4 : decode cX7_load 4 = .ok (.aload_n 0, 1) := by decide +kernel
theorem dX7_load_5 : decode cX7_load 5 = .ok (.getfield 10, 3) := by decide +kernel
theorem dX7_load_8 : decode cX7_load 8 = .ok (.invokevirtual 33, 3) := by decide +kernel
theorem dX7_load_11 : decode cX7_load 11 = .ok (.aload_n 0, 1) := by decide +kernel
theorem dX7_load_12 : decode cX7_load 12 = .ok (.getfield 22, 3) := by decide +kernel
theorem dX7_load_15 : decode cX7_load 15 = .ok (.aload_n 0, 1) := by decide +kernel
theorem dX7_load_16 : decode cX7_load 16 = .ok (.getfield 10, 3) := by decide +kernel
theorem dX7_load_19 : decode cX7_load 19 = .ok (.iload_n 1, 1) := by decide +kernel
theorem dX7_load_20 : decode cX7_load 20 = .ok (.iload_n 2, 1) := by decide +kernel
theorem dX7_load_21 : decode cX7_load 21 = .ok (.iload_n 3, 1) := by decide +kernel
theorem dX7_load_22 : decode cX7_load 22 = .ok (.invokevirtual 52, 3) := by decide +kernel
theorem dX7_load_25 : decode cX7_load 25 = .ok (.invokevirtual 41, 3) := by decide +kernel
theorem dX7_load_28 : decode cX7_load 28 = .ok (.ireturn, 1) := by decide +kernel
theorem dX7_lockerOf_0 : decode cX7_lockerOf 0 = .ok (.aload_n 0, 1) := by decide +kernel
theorem dX7_lockerOf_1 : decode cX7_lockerOf 1 = .ok (.getfield 10, 3) := by decide +kernel
theorem dX7_lockerOf_4 : decode cX7_lockerOf 4 = .ok (.iload_n 1, 1) := by decide +kernel
theorem dX7_lockerOf_5 : decode cX7_lockerOf 5 = .ok (.invokevirtual 56, 3) := by decide +kernel
theorem dX7_lockerOf_8 : decode cX7_lockerOf 8 = .ok (.ifCond .eq 13, 3) := by decide +kernel
theorem dX7_lockerOf_11 : decode cX7_lockerOf 11 = .ok (.iload_n 2, 1) := by decide +kernel
theorem dX7_lockerOf_12 : decode cX7_lockerOf 12 = .ok (.ifCond .lt 9, 3) := by decide +kernel
theorem dX7_lockerOf_15 : decode cX7_lockerOf 15 = .ok (.iload_n 2, 1) := by decide +kernel
theorem dX7_lockerOf_16 : decode cX7_lockerOf 16 = .ok (.bipush 11, 2) := by decide +kernel
theorem dX7_lockerOf_18 : decode cX7_lockerOf 18 = .ok (.if_icmp .le 5, 3) := by decide +kernel
theorem dX7_lockerOf_21 : decode cX7_lockerOf 21 = .ok (.iconst (-1), 1) := by decide +kernel
theorem dX7_lockerOf_22 : decode cX7_lockerOf 22 = .ok (.ireturn, 1) := by decide +kernel
theorem dX7_lockerOf_23 : decode cX7_lockerOf 23 = .ok (.aload_n 0, 1) := by decide +kernel
theorem dX7_lockerOf_24 : decode cX7_lockerOf 24 = .ok (.getfield 10, 3) := by decide +kernel
theorem dX7_lockerOf_27 : decode cX7_lockerOf 27 = .ok (.getfield 60, 3) := by decide +kernel
theorem dX7_lockerOf_30 : decode cX7_lockerOf 30 = .ok (.astore_n 3, 1) := by decide +kernel
theorem dX7_lockerOf_31 : decode cX7_lockerOf 31 = .ok (.iload_n 2, 1) := by decide +kernel
theorem dX7_lockerOf_32 : decode cX7_lockerOf 32 = .ok (.tableswitch 81 8 11 #[32, 39, 61, 71], 32) := by decide +kernel
theorem dX7_lockerOf_64 : decode cX7_lockerOf 64 = .ok (.aload_n 3, 1) := by decide +kernel
theorem dX7_lockerOf_65 : decode cX7_lockerOf 65 = .ok (.getfield 64, 3) := by decide +kernel
theorem dX7_lockerOf_68 : decode cX7_lockerOf 68 = .ok (.iload_n 1, 1) := by decide +kernel
theorem dX7_lockerOf_69 : decode cX7_lockerOf 69 = .ok (.iaload, 1) := by decide +kernel
theorem dX7_lockerOf_70 : decode cX7_lockerOf 70 = .ok (.ireturn, 1) := by decide +kernel
theorem dX7_lockerOf_71 : decode cX7_lockerOf 71 = .ok (.aload_n 3, 1) := by decide +kernel
theorem dX7_lockerOf_72 : decode cX7_lockerOf 72 = .ok (.getfield 64, 3) := by decide +kernel
theorem dX7_lockerOf_75 : decode cX7_lockerOf 75 = .ok (.iload_n 1, 1) := by decide +kernel
theorem dX7_lockerOf_76 : decode cX7_lockerOf 76 = .ok (.iaload, 1) := by decide +kernel
theorem dX7_lockerOf_77 : decode cX7_lockerOf 77 = .ok (.iconst 1, 1) := by decide +kernel
theorem dX7_lockerOf_78 : decode cX7_lockerOf 78 = .ok (.if_icmp .ne 12, 3) := by decide +kernel
theorem dX7_lockerOf_81 : decode cX7_lockerOf 81 = .ok (.aload_n 3, 1) := by decide +kernel
theorem dX7_lockerOf_82 : decode cX7_lockerOf 82 = .ok (.getfield 70, 3) := by decide +kernel
theorem dX7_lockerOf_85 : decode cX7_lockerOf 85 = .ok (.iload_n 1, 1) := by decide +kernel
theorem dX7_lockerOf_86 : decode cX7_lockerOf 86 = .ok (.iaload, 1) := by decide +kernel
theorem dX7_lockerOf_87 : decode cX7_lockerOf 87 = .ok (.goto 5, 3) := by decide +kernel
theorem dX7_lockerOf_90 : decode cX7_lockerOf 90 = .ok (.bipush (-4), 2) := by decide +kernel
theorem dX7_lockerOf_92 : decode cX7_lockerOf 92 = .ok (.ireturn, 1) := by decide +kernel
theorem dX7_lockerOf_93 : decode cX7_lockerOf 93 = .ok (.aload_n 3, 1) := by decide +kernel
theorem dX7_lockerOf_94 : decode cX7_lockerOf 94 = .ok (.aload_n 3, 1) := by decide +kernel
theorem dX7_lockerOf_95 : decode cX7_lockerOf 95 = .ok (.getfield 73, 3) := by decide +kernel
theorem dX7_lockerOf_98 : decode cX7_lockerOf 98 = .ok (.iload_n 1, 1) := by decide +kernel
theorem dX7_lockerOf_99 : decode cX7_lockerOf 99 = .ok (.invokevirtual 76, 3) := by decide +kernel
theorem dX7_lockerOf_102 : decode cX7_lockerOf 102 = .ok (.ireturn, 1) := by decide +kernel
theorem dX7_lockerOf_103 : decode cX7_lockerOf 103 = .ok (.aload_n 3, 1) := by decide +kernel
theorem dX7_lockerOf_104 : decode cX7_lockerOf 104 = .ok (.aload_n 3, 1) := by decide +kernel
theorem dX7_lockerOf_105 : decode cX7_lockerOf 105 = .ok (.getfield 80, 3) := by decide +kernel
theorem dX7_lockerOf_108 : decode cX7_lockerOf 108 = .ok (.iload_n 1, 1) := by decide +kernel
theorem dX7_lockerOf_109 : decode cX7_lockerOf 109 = .ok (.invokevirtual 76, 3) := by decide +kernel
theorem dX7_lockerOf_112 : decode cX7_lockerOf 112 = .ok (.ireturn, 1) := by decide +kernel
theorem dX7_lockerOf_113 : decode cX7_lockerOf 113 = .ok (.aload_n 0, 1) := by decide +kernel
theorem dX7_lockerOf_114 : decode cX7_lockerOf 114 = .ok (.getfield 10, 3) := by decide +kernel
theorem dX7_lockerOf_117 : decode cX7_lockerOf 117 = .ok (.iload_n 2, 1) := by decide +kernel
theorem dX7_lockerOf_118 : decode cX7_lockerOf 118 = .ok (.invokevirtual 83, 3) := by decide +kernel
theorem dX7_lockerOf_121 : decode cX7_lockerOf 121 = .ok (.ifCond .eq 17, 3) := by decide +kernel
theorem dX7_lockerOf_124 : decode cX7_lockerOf 124 = .ok (.aload_n 3, 1) := by decide +kernel
theorem dX7_lockerOf_125 : decode cX7_lockerOf 125 = .ok (.getfield 73, 3) := by decide +kernel
theorem dX7_lockerOf_128 : decode cX7_lockerOf 128 = .ok (.aload_n 3, 1) := by decide +kernel
theorem dX7_lockerOf_129 : decode cX7_lockerOf 129 = .ok (.iload_n 1, 1) := by decide +kernel
theorem dX7_lockerOf_130 : decode cX7_lockerOf 130 = .ok (.iload_n 2, 1) := by decide +kernel
theorem dX7_lockerOf_131 : decode cX7_lockerOf 131 = .ok (.invokevirtual 86, 3) := by decide +kernel
theorem dX7_lockerOf_134 : decode cX7_lockerOf 134 = .ok (.iaload, 1) := by decide +kernel
theorem dX7_lockerOf_135 : decode cX7_lockerOf 135 = .ok (.goto 4, 3) := by decide +kernel
theorem dX7_lockerOf_138 : decode cX7_lockerOf 138 = .ok (.iconst (-1), 1) := by decide +kernel
theorem dX7_lockerOf_139 : decode cX7_lockerOf 139 = .ok (.ireturn, 1) := by decide +kernel
theorem dX7_missing_0 : decode cX7_missing 0 = .ok (.aload_n 0, 1) := by decide +kernel
theorem dX7_missing_1 : decode cX7_missing 1 = .ok (.getfield 10, 3) := by decide +kernel
theorem dX7_missing_4 : decode cX7_missing 4 = .ok (.iload_n 1, 1) := by decide +kernel
theorem dX7_missing_5 : decode cX7_missing 5 = .ok (.invokevirtual 56, 3) := by decide +kernel
theorem dX7_missing_8 : decode cX7_missing 8 = .ok (.ifCond .eq 14, 3) := by decide +kernel
theorem dX7_missing_11 : decode cX7_missing 11 = .ok (.aload_n 0, 1) := by decide +kernel
theorem dX7_missing_12 : decode cX7_missing 12 = .ok (.getfield 10, 3) := by decide +kernel
theorem dX7_missing_15 : decode cX7_missing 15 = .ok (.iload_n 2, 1) := by decide +kernel
theorem dX7_missing_16 : decode cX7_missing 16 = .ok (.invokevirtual 83, 3) := by decide +kernel
theorem dX7_missing_19 : decode cX7_missing 19 = .ok (.ifCond .ne 5, 3) := by decide +kernel
theorem dX7_missing_22 : decode cX7_missing 22 = .ok (.iconst (-1), 1) := by decide +kernel
theorem dX7_missing_23 : decode cX7_missing 23 = .ok (.ireturn, 1) := by decide +kernel
theorem dX7_missing_24 : decode cX7_missing 24 = .ok (.aload_n 0, 1) := by decide +kernel
theorem dX7_missing_25 : decode cX7_missing 25 = .ok (.getfield 10, 3) := by decide +kernel
theorem dX7_missing_28 : decode cX7_missing 28 = .ok (.getfield 60, 3) := by decide +kernel
theorem dX7_missing_31 : decode cX7_missing 31 = .ok (.getfield 80, 3) := by decide +kernel
theorem dX7_missing_34 : decode cX7_missing 34 = .ok (.aload_n 0, 1) := by decide +kernel
theorem dX7_missing_35 : decode cX7_missing 35 = .ok (.getfield 10, 3) := by decide +kernel
theorem dX7_missing_38 : decode cX7_missing 38 = .ok (.getfield 60, 3) := by decide +kernel
theorem dX7_missing_41 : decode cX7_missing 41 = .ok (.iload_n 1, 1) := by decide +kernel
theorem dX7_missing_42 : decode cX7_missing 42 = .ok (.iload_n 2, 1) := by decide +kernel
theorem dX7_missing_43 : decode cX7_missing 43 = .ok (.invokevirtual 86, 3) := by decide +kernel
theorem dX7_missing_46 : decode cX7_missing 46 = .ok (.iaload, 1) := by decide +kernel
theorem dX7_missing_47 : decode cX7_missing 47 = .ok (.ireturn, 1) := by decide +kernel
theorem dX7_seal_0 : decode cX7_seal 0 = .ok (.aload_n 0, 1) := by decide +kernel
theorem dX7_seal_1 : decode cX7_seal 1 = .ok (.getfield 10, 3) := by decide +kernel
theorem dX7_seal_4 : decode cX7_seal 4 = .ok (.getfield 89, 3) := by decide +kernel
theorem dX7_seal_7 : decode cX7_seal 7 = .ok (.astore_n 3, 1) := by decide +kernel
theorem dX7_seal_8 : decode cX7_seal 8 = .ok (.iload_n 1, 1) := by decide +kernel
theorem dX7_seal_9 : decode cX7_seal 9 = .ok (.iconst 1, 1) := by decide +kernel
theorem dX7_seal_10 : decode cX7_seal 10 = .ok (.if_icmp .lt 11, 3) := by decide +kernel
theorem dX7_seal_13 : decode cX7_seal 13 = .ok (.iload_n 1, 1) := by decide +kernel
theorem dX7_seal_14 : decode cX7_seal 14 = .ok (.aload_n 3, 1) := by decide +kernel
theorem dX7_seal_15 : decode cX7_seal 15 = .ok (.getfield 93, 3) := by decide +kernel
theorem dX7_seal_18 : decode cX7_seal 18 = .ok (.if_icmp .le 5, 3) := by decide +kernel
theorem dX7_seal_21 : decode cX7_seal 21 = .ok (.iconst (-1), 1) := by decide +kernel
theorem dX7_seal_22 : decode cX7_seal 22 = .ok (.ireturn, 1) := by decide +kernel
theorem dX7_seal_23 : decode cX7_seal 23 = .ok (.iload_n 2, 1) := by decide +kernel
theorem dX7_seal_24 : decode cX7_seal 24 = .ok (.tableswitch 49 0 2 #[28, 35, 42], 28) := by decide +kernel
theorem dX7_seal_52 : decode cX7_seal 52 = .ok (.aload_n 3, 1) := by decide +kernel
theorem dX7_seal_53 : decode cX7_seal 53 = .ok (.getfield 99, 3) := by decide +kernel
theorem dX7_seal_56 : decode cX7_seal 56 = .ok (.iload_n 1, 1) := by decide +kernel
theorem dX7_seal_57 : decode cX7_seal 57 = .ok (.iaload, 1) := by decide +kernel
theorem dX7_seal_58 : decode cX7_seal 58 = .ok (.ireturn, 1) := by decide +kernel
theorem dX7_seal_59 : decode cX7_seal 59 = .ok (.aload_n 3, 1) := by decide +kernel
theorem dX7_seal_60 : decode cX7_seal 60 = .ok (.getfield 102, 3) := by decide +kernel
theorem dX7_seal_63 : decode cX7_seal 63 = .ok (.iload_n 1, 1) := by decide +kernel
theorem dX7_seal_64 : decode cX7_seal 64 = .ok (.iaload, 1) := by decide +kernel
theorem dX7_seal_65 : decode cX7_seal 65 = .ok (.ireturn, 1) := by decide +kernel
theorem dX7_seal_66 : decode cX7_seal 66 = .ok (.aload_n 3, 1) := by decide +kernel
theorem dX7_seal_67 : decode cX7_seal 67 = .ok (.getfield 105, 3) := by decide +kernel
theorem dX7_seal_70 : decode cX7_seal 70 = .ok (.iload_n 1, 1) := by decide +kernel
theorem dX7_seal_71 : decode cX7_seal 71 = .ok (.iaload, 1) := by decide +kernel
theorem dX7_seal_72 : decode cX7_seal 72 = .ok (.ireturn, 1) := by decide +kernel
theorem dX7_seal_73 : decode cX7_seal 73 = .ok (.iconst (-1), 1) := by decide +kernel
theorem dX7_seal_74 : decode cX7_seal 74 = .ok (.ireturn, 1) := by decide +kernel
theorem dX7_bond_0 : decode cX7_bond 0 = .ok (.aload_n 0, 1) := by decide +kernel
theorem dX7_bond_1 : decode cX7_bond 1 = .ok (.getfield 10, 3) := by decide +kernel
theorem dX7_bond_4 : decode cX7_bond 4 = .ok (.getfield 108, 3) := by decide +kernel
theorem dX7_bond_7 : decode cX7_bond 7 = .ok (.astore_n 3, 1) := by decide +kernel
theorem dX7_bond_8 : decode cX7_bond 8 = .ok (.iload_n 1, 1) := by decide +kernel
theorem dX7_bond_9 : decode cX7_bond 9 = .ok (.ifCond .lt 11, 3) := by decide +kernel
theorem dX7_bond_12 : decode cX7_bond 12 = .ok (.iload_n 1, 1) := by decide +kernel
theorem dX7_bond_13 : decode cX7_bond 13 = .ok (.aload_n 3, 1) := by decide +kernel
theorem dX7_bond_14 : decode cX7_bond 14 = .ok (.getfield 112, 3) := by decide +kernel
theorem dX7_bond_17 : decode cX7_bond 17 = .ok (.if_icmp .lt 5, 3) := by decide +kernel
theorem dX7_bond_20 : decode cX7_bond 20 = .ok (.iconst (-1), 1) := by decide +kernel
theorem dX7_bond_21 : decode cX7_bond 21 = .ok (.ireturn, 1) := by decide +kernel
theorem dX7_bond_22 : decode cX7_bond 22 = .ok (.iload_n 2, 1) := by decide +kernel
theorem dX7_bond_23 : decode cX7_bond 23 = .ok (.tableswitch 79 0 5 #[37, 44, 51, 58, 65, 72], 37) := by decide +kernel
theorem dX7_bond_60 : decode cX7_bond 60 = .ok (.aload_n 3, 1) := by decide +kernel
theorem dX7_bond_61 : decode cX7_bond 61 = .ok (.getfield 117, 3) := by decide +kernel
theorem dX7_bond_64 : decode cX7_bond 64 = .ok (.iload_n 1, 1) := by decide +kernel
theorem dX7_bond_65 : decode cX7_bond 65 = .ok (.iaload, 1) := by decide +kernel
theorem dX7_bond_66 : decode cX7_bond 66 = .ok (.ireturn, 1) := by decide +kernel
theorem dX7_bond_67 : decode cX7_bond 67 = .ok (.aload_n 3, 1) := by decide +kernel
theorem dX7_bond_68 : decode cX7_bond 68 = .ok (.getfield 120, 3) := by decide +kernel
theorem dX7_bond_71 : decode cX7_bond 71 = .ok (.iload_n 1, 1) := by decide +kernel
theorem dX7_bond_72 : decode cX7_bond 72 = .ok (.iaload, 1) := by decide +kernel
theorem dX7_bond_73 : decode cX7_bond 73 = .ok (.ireturn, 1) := by decide +kernel
theorem dX7_bond_74 : decode cX7_bond 74 = .ok (.aload_n 3, 1) := by decide +kernel
theorem dX7_bond_75 : decode cX7_bond 75 = .ok (.getfield 123, 3) := by decide +kernel
theorem dX7_bond_78 : decode cX7_bond 78 = .ok (.iload_n 1, 1) := by decide +kernel
theorem dX7_bond_79 : decode cX7_bond 79 = .ok (.iaload, 1) := by decide +kernel
theorem dX7_bond_80 : decode cX7_bond 80 = .ok (.ireturn, 1) := by decide +kernel
theorem dX7_bond_81 : decode cX7_bond 81 = .ok (.aload_n 3, 1) := by decide +kernel
theorem dX7_bond_82 : decode cX7_bond 82 = .ok (.getfield 126, 3) := by decide +kernel
theorem dX7_bond_85 : decode cX7_bond 85 = .ok (.iload_n 1, 1) := by decide +kernel
theorem dX7_bond_86 : decode cX7_bond 86 = .ok (.iaload, 1) := by decide +kernel
theorem dX7_bond_87 : decode cX7_bond 87 = .ok (.ireturn, 1) := by decide +kernel
theorem dX7_bond_88 : decode cX7_bond 88 = .ok (.aload_n 3, 1) := by decide +kernel
theorem dX7_bond_89 : decode cX7_bond 89 = .ok (.iload_n 1, 1) := by decide +kernel
theorem dX7_bond_90 : decode cX7_bond 90 = .ok (.invokevirtual 129, 3) := by decide +kernel
theorem dX7_bond_93 : decode cX7_bond 93 = .ok (.l2i, 1) := by decide +kernel
theorem dX7_bond_94 : decode cX7_bond 94 = .ok (.ireturn, 1) := by decide +kernel
theorem dX7_bond_95 : decode cX7_bond 95 = .ok (.aload_n 3, 1) := by decide +kernel
theorem dX7_bond_96 : decode cX7_bond 96 = .ok (.getfield 133, 3) := by decide +kernel
theorem dX7_bond_99 : decode cX7_bond 99 = .ok (.iload_n 1, 1) := by decide +kernel
theorem dX7_bond_100 : decode cX7_bond 100 = .ok (.iaload, 1) := by decide +kernel
theorem dX7_bond_101 : decode cX7_bond 101 = .ok (.ireturn, 1) := by decide +kernel
theorem dX7_bond_102 : decode cX7_bond 102 = .ok (.iconst (-1), 1) := by decide +kernel
theorem dX7_bond_103 : decode cX7_bond 103 = .ok (.ireturn, 1) := by decide +kernel
theorem dX7_nextBond_0 : decode cX7_nextBond 0 = .ok (.aload_n 0, 1) := by decide +kernel
theorem dX7_nextBond_1 : decode cX7_nextBond 1 = .ok (.getfield 10, 3) := by decide +kernel
theorem dX7_nextBond_4 : decode cX7_nextBond 4 = .ok (.iload_n 1, 1) := by decide +kernel
theorem dX7_nextBond_5 : decode cX7_nextBond 5 = .ok (.invokevirtual 83, 3) := by decide +kernel
theorem dX7_nextBond_8 : decode cX7_nextBond 8 = .ok (.ifCond .ne 5, 3) := by decide +kernel
theorem dX7_nextBond_11 : decode cX7_nextBond 11 = .ok (.iconst (-1), 1) := by decide +kernel
theorem dX7_nextBond_12 : decode cX7_nextBond 12 = .ok (.ireturn, 1) := by decide +kernel
theorem dX7_nextBond_13 : decode cX7_nextBond 13 = .ok (.aload_n 0, 1) := by decide +kernel
theorem dX7_nextBond_14 : decode cX7_nextBond 14 = .ok (.getfield 10, 3) := by decide +kernel
theorem dX7_nextBond_17 : decode cX7_nextBond 17 = .ok (.getfield 108, 3) := by decide +kernel
theorem dX7_nextBond_20 : decode cX7_nextBond 20 = .ok (.iload_n 1, 1) := by decide +kernel
theorem dX7_nextBond_21 : decode cX7_nextBond 21 = .ok (.iconst (-1), 1) := by decide +kernel
theorem dX7_nextBond_22 : decode cX7_nextBond 22 = .ok (.invokevirtual 136, 3) := by decide +kernel
theorem dX7_nextBond_25 : decode cX7_nextBond 25 = .ok (.istore_n 2, 1) := by decide +kernel
theorem dX7_nextBond_26 : decode cX7_nextBond 26 = .ok (.iload_n 2, 1) := by decide +kernel
theorem dX7_nextBond_27 : decode cX7_nextBond 27 = .ok (.iconst (-1), 1) := by decide +kernel
theorem dX7_nextBond_28 : decode cX7_nextBond 28 = .ok (.if_icmp .ne 8, 3) := by decide +kernel
theorem dX7_nextBond_31 : decode cX7_nextBond 31 = .ok (.bipush (-4), 2) := by decide +kernel
theorem dX7_nextBond_33 : decode cX7_nextBond 33 = .ok (.goto 4, 3) := by decide +kernel
theorem dX7_nextBond_36 : decode cX7_nextBond 36 = .ok (.iload_n 2, 1) := by decide +kernel
theorem dX7_nextBond_37 : decode cX7_nextBond 37 = .ok (.ireturn, 1) := by decide +kernel
theorem dX7_use_0 : decode cX7_use 0 = .ok (.aload_n 0, 1) := by decide +kernel
theorem dX7_use_1 : decode cX7_use 1 = .ok (.getfield 22, 3) := by decide +kernel
theorem dX7_use_4 : decode cX7_use 4 = .ok (.aload_n 0, 1) := by decide +kernel
theorem dX7_use_5 : decode cX7_use 5 = .ok (.getfield 10, 3) := by decide +kernel
theorem dX7_use_8 : decode cX7_use 8 = .ok (.invokevirtual 33, 3) := by decide +kernel
theorem dX7_use_11 : decode cX7_use 11 = .ok (.aload_n 0, 1) := by decide +kernel
theorem dX7_use_12 : decode cX7_use 12 = .ok (.getfield 22, 3) := by decide +kernel
theorem dX7_use_15 : decode cX7_use 15 = .ok (.aload_n 0, 1) := by decide +kernel
theorem dX7_use_16 : decode cX7_use 16 = .ok (.getfield 10, 3) := by decide +kernel
theorem dX7_use_19 : decode cX7_use 19 = .ok (.iload_n 1, 1) := by decide +kernel
theorem dX7_use_20 : decode cX7_use 20 = .ok (.iload_n 2, 1) := by decide +kernel
theorem dX7_use_21 : decode cX7_use 21 = .ok (.iload_n 3, 1) := by decide +kernel
theorem dX7_use_22 : decode cX7_use 22 = .ok (.invokevirtual 139, 3) := by decide +kernel
theorem dX7_use_25 : decode cX7_use 25 = .ok (.invokevirtual 41, 3) := by decide +kernel
theorem dX7_use_28 : decode cX7_use 28 = .ok (.ireturn, 1) := by decide +kernel
theorem dX7_bring_0 : decode cX7_bring 0 = .ok (.aload_n 0, 1) := by decide +kernel
theorem dX7_bring_1 : decode cX7_bring 1 = .ok (.getfield 22, 3) := by decide +kernel
theorem dX7_bring_4 : decode cX7_bring 4 = .ok (.aload_n 0, 1) := by decide +kernel
theorem dX7_bring_5 : decode cX7_bring 5 = .ok (.getfield 10, 3) := by decide +kernel
theorem dX7_bring_8 : decode cX7_bring 8 = .ok (.invokevirtual 33, 3) := by decide +kernel
theorem dX7_bring_11 : decode cX7_bring 11 = .ok (.aload_n 0, 1) := by decide +kernel
theorem dX7_bring_12 : decode cX7_bring 12 = .ok (.getfield 22, 3) := by decide +kernel
theorem dX7_bring_15 : decode cX7_bring 15 = .ok (.aload_n 0, 1) := by decide +kernel
theorem dX7_bring_16 : decode cX7_bring 16 = .ok (.getfield 10, 3) := by decide +kernel
theorem dX7_bring_19 : decode cX7_bring 19 = .ok (.iload_n 1, 1) := by decide +kernel
theorem dX7_bring_20 : decode cX7_bring 20 = .ok (.iload_n 2, 1) := by decide +kernel
theorem dX7_bring_21 : decode cX7_bring 21 = .ok (.iload_n 3, 1) := by decide +kernel
theorem dX7_bring_22 : decode cX7_bring 22 = .ok (.invokevirtual 142, 3) := by decide +kernel
theorem dX7_bring_25 : decode cX7_bring 25 = .ok (.invokevirtual 41, 3) := by decide +kernel
theorem dX7_bring_28 : decode cX7_bring 28 = .ok (.ireturn, 1) := by decide +kernel
theorem dX7_smash_0 : decode cX7_smash 0 = .ok (.aload_n 0, 1) := by decide +kernel
theorem dX7_smash_1 : decode cX7_smash 1 = .ok (.getfield 22, 3) := by decide +kernel
theorem dX7_smash_4 : decode cX7_smash 4 = .ok (.aload_n 0, 1) := by decide +kernel
theorem dX7_smash_5 : decode cX7_smash 5 = .ok (.getfield 10, 3) := by decide +kernel
theorem dX7_smash_8 : decode cX7_smash 8 = .ok (.invokevirtual 33, 3) := by decide +kernel
theorem dX7_smash_11 : decode cX7_smash 11 = .ok (.aload_n 0, 1) := by decide +kernel
theorem dX7_smash_12 : decode cX7_smash 12 = .ok (.getfield 22, 3) := by decide +kernel
theorem dX7_smash_15 : decode cX7_smash 15 = .ok (.aload_n 0, 1) := by decide +kernel
theorem dX7_smash_16 : decode cX7_smash 16 = .ok (.getfield 10, 3) := by decide +kernel
theorem dX7_smash_19 : decode cX7_smash 19 = .ok (.iload_n 1, 1) := by decide +kernel
theorem dX7_smash_20 : decode cX7_smash 20 = .ok (.iload_n 2, 1) := by decide +kernel
theorem dX7_smash_21 : decode cX7_smash 21 = .ok (.iload_n 3, 1) := by decide +kernel
theorem dX7_smash_22 : decode cX7_smash 22 = .ok (.iload 4, 2) := by decide +kernel
theorem dX7_smash_24 : decode cX7_smash 24 = .ok (.invokevirtual 145, 3) := by decide +kernel
theorem dX7_smash_27 : decode cX7_smash 27 = .ok (.invokevirtual 41, 3) := by decide +kernel
theorem dX7_smash_30 : decode cX7_smash 30 = .ok (.ireturn, 1) := by decide +kernel
theorem dX7_tear_0 : decode cX7_tear 0 = .ok (.aload_n 0, 1) := by decide +kernel
theorem dX7_tear_1 : decode cX7_tear 1 = .ok (.getfield 22, 3) := by decide +kernel
theorem dX7_tear_4 : decode cX7_tear 4 = .ok (.aload_n 0, 1) := by decide +kernel
theorem dX7_tear_5 : decode cX7_tear 5 = .ok (.getfield 10, 3) := by decide +kernel
theorem dX7_tear_8 : decode cX7_tear 8 = .ok (.invokevirtual 33, 3) := by decide +kernel
theorem dX7_tear_11 : decode cX7_tear 11 = .ok (.aload_n 0, 1) := by decide +kernel
theorem dX7_tear_12 : decode cX7_tear 12 = .ok (.getfield 22, 3) := by decide +kernel
theorem dX7_tear_15 : decode cX7_tear 15 = .ok (.aload_n 0, 1) := by decide +kernel
theorem dX7_tear_16 : decode cX7_tear 16 = .ok (.getfield 10, 3) := by decide +kernel
theorem dX7_tear_19 : decode cX7_tear 19 = .ok (.iload_n 1, 1) := by decide +kernel
theorem dX7_tear_20 : decode cX7_tear 20 = .ok (.invokevirtual 149, 3) := by decide +kernel
theorem dX7_tear_23 : decode cX7_tear 23 = .ok (.invokevirtual 41, 3) := by decide +kernel
theorem dX7_tear_26 : decode cX7_tear 26 = .ok (.ireturn, 1) := by decide +kernel
theorem dX7_inspect_0 : decode cX7_inspect 0 = .ok (.aload_n 0, 1) := by decide +kernel
theorem dX7_inspect_1 : decode cX7_inspect 1 = .ok (.getfield 22, 3) := by decide +kernel
theorem dX7_inspect_4 : decode cX7_inspect 4 = .ok (.aload_n 0, 1) := by decide +kernel
theorem dX7_inspect_5 : decode cX7_inspect 5 = .ok (.getfield 10, 3) := by decide +kernel
theorem dX7_inspect_8 : decode cX7_inspect 8 = .ok (.invokevirtual 33, 3) := by decide +kernel
theorem dX7_inspect_11 : decode cX7_inspect 11 = .ok (.aload_n 0, 1) := by decide +kernel
theorem dX7_inspect_12 : decode cX7_inspect 12 = .ok (.getfield 22, 3) := by decide +kernel
theorem dX7_inspect_15 : decode cX7_inspect 15 = .ok (.aload_n 0, 1) := by decide +kernel
theorem dX7_inspect_16 : decode cX7_inspect 16 = .ok (.getfield 10, 3) := by decide +kernel
theorem dX7_inspect_19 : decode cX7_inspect 19 = .ok (.iload_n 1, 1) := by decide +kernel
theorem dX7_inspect_20 : decode cX7_inspect 20 = .ok (.invokevirtual 152, 3) := by decide +kernel
theorem dX7_inspect_23 : decode cX7_inspect 23 = .ok (.invokevirtual 41, 3) := by decide +kernel
theorem dX7_inspect_26 : decode cX7_inspect 26 = .ok (.ireturn, 1) := by decide +kernel
theorem dX7_cross_0 : decode cX7_cross 0 = .ok (.aload_n 0, 1) := by decide +kernel
theorem dX7_cross_1 : decode cX7_cross 1 = .ok (.getfield 22, 3) := by decide +kernel
theorem dX7_cross_4 : decode cX7_cross 4 = .ok (.aload_n 0, 1) := by decide +kernel
theorem dX7_cross_5 : decode cX7_cross 5 = .ok (.getfield 10, 3) := by decide +kernel
theorem dX7_cross_8 : decode cX7_cross 8 = .ok (.invokevirtual 33, 3) := by decide +kernel
theorem dX7_cross_11 : decode cX7_cross 11 = .ok (.aload_n 0, 1) := by decide +kernel
theorem dX7_cross_12 : decode cX7_cross 12 = .ok (.getfield 22, 3) := by decide +kernel
theorem dX7_cross_15 : decode cX7_cross 15 = .ok (.aload_n 0, 1) := by decide +kernel
theorem dX7_cross_16 : decode cX7_cross 16 = .ok (.getfield 10, 3) := by decide +kernel
theorem dX7_cross_19 : decode cX7_cross 19 = .ok (.iload_n 1, 1) := by decide +kernel
theorem dX7_cross_20 : decode cX7_cross 20 = .ok (.invokevirtual 155, 3) := by decide +kernel
theorem dX7_cross_23 : decode cX7_cross 23 = .ok (.invokevirtual 41, 3) := by decide +kernel
theorem dX7_cross_26 : decode cX7_cross 26 = .ok (.ireturn, 1) := by decide +kernel
theorem dX7_pass_0 : decode cX7_pass 0 = .ok (.aload_n 0, 1) := by decide +kernel
theorem dX7_pass_1 : decode cX7_pass 1 = .ok (.getfield 22, 3) := by decide +kernel
theorem dX7_pass_4 : decode cX7_pass 4 = .ok (.aload_n 0, 1) := by decide +kernel
theorem dX7_pass_5 : decode cX7_pass 5 = .ok (.getfield 10, 3) := by decide +kernel
theorem dX7_pass_8 : decode cX7_pass 8 = .ok (.invokevirtual 33, 3) := by decide +kernel
theorem dX7_pass_11 : decode cX7_pass 11 = .ok (.aload_n 0, 1) := by decide +kernel
theorem dX7_pass_12 : decode cX7_pass 12 = .ok (.getfield 22, 3) := by decide +kernel
theorem dX7_pass_15 : decode cX7_pass 15 = .ok (.aload_n 0, 1) := by decide +kernel
theorem dX7_pass_16 : decode cX7_pass 16 = .ok (.getfield 10, 3) := by decide +kernel
theorem dX7_pass_19 : decode cX7_pass 19 = .ok (.iload_n 1, 1) := by decide +kernel
theorem dX7_pass_20 : decode cX7_pass 20 = .ok (.invokevirtual 158, 3) := by decide +kernel
theorem dX7_pass_23 : decode cX7_pass 23 = .ok (.invokevirtual 41, 3) := by decide +kernel
theorem dX7_pass_26 : decode cX7_pass 26 = .ok (.ireturn, 1) := by decide +kernel
theorem dX7_set_0 : decode cX7_set 0 = .ok (.aload_n 0, 1) := by decide +kernel
theorem dX7_set_1 : decode cX7_set 1 = .ok (.getfield 22, 3) := by decide +kernel
theorem dX7_set_4 : decode cX7_set 4 = .ok (.aload_n 0, 1) := by decide +kernel
theorem dX7_set_5 : decode cX7_set 5 = .ok (.getfield 10, 3) := by decide +kernel
theorem dX7_set_8 : decode cX7_set 8 = .ok (.invokevirtual 33, 3) := by decide +kernel
theorem dX7_set_11 : decode cX7_set 11 = .ok (.aload_n 0, 1) := by decide +kernel
theorem dX7_set_12 : decode cX7_set 12 = .ok (.getfield 22, 3) := by decide +kernel
theorem dX7_set_15 : decode cX7_set 15 = .ok (.aload_n 0, 1) := by decide +kernel
theorem dX7_set_16 : decode cX7_set 16 = .ok (.getfield 10, 3) := by decide +kernel
theorem dX7_set_19 : decode cX7_set 19 = .ok (.iload_n 1, 1) := by decide +kernel
theorem dX7_set_20 : decode cX7_set 20 = .ok (.iload_n 2, 1) := by decide +kernel
theorem dX7_set_21 : decode cX7_set 21 = .ok (.invokevirtual 161, 3) := by decide +kernel
theorem dX7_set_24 : decode cX7_set 24 = .ok (.invokevirtual 41, 3) := by decide +kernel
theorem dX7_set_27 : decode cX7_set 27 = .ok (.ireturn, 1) := by decide +kernel
theorem dX7_account_0 : decode cX7_account 0 = .ok (.aload_n 0, 1) := by decide +kernel
theorem dX7_account_1 : decode cX7_account 1 = .ok (.getfield 10, 3) := by decide +kernel
theorem dX7_account_4 : decode cX7_account 4 = .ok (.iload_n 1, 1) := by decide +kernel
theorem dX7_account_5 : decode cX7_account 5 = .ok (.invokevirtual 83, 3) := by decide +kernel
theorem dX7_account_8 : decode cX7_account 8 = .ok (.ifCond .eq 13, 3) := by decide +kernel
theorem dX7_account_11 : decode cX7_account 11 = .ok (.iload_n 2, 1) := by decide +kernel
theorem dX7_account_12 : decode cX7_account 12 = .ok (.ifCond .lt 9, 3) := by decide +kernel
theorem dX7_account_15 : decode cX7_account 15 = .ok (.iload_n 2, 1) := by decide +kernel
theorem dX7_account_16 : decode cX7_account 16 = .ok (.bipush 6, 2) := by decide +kernel
theorem dX7_account_18 : decode cX7_account 18 = .ok (.if_icmp .le 5, 3) := by decide +kernel
theorem dX7_account_21 : decode cX7_account 21 = .ok (.iconst (-1), 1) := by decide +kernel
theorem dX7_account_22 : decode cX7_account 22 = .ok (.ireturn, 1) := by decide +kernel
theorem dX7_account_23 : decode cX7_account 23 = .ok (.aload_n 0, 1) := by decide +kernel
theorem dX7_account_24 : decode cX7_account 24 = .ok (.getfield 10, 3) := by decide +kernel
theorem dX7_account_27 : decode cX7_account 27 = .ok (.getfield 60, 3) := by decide +kernel
theorem dX7_account_30 : decode cX7_account 30 = .ok (.astore_n 3, 1) := by decide +kernel
theorem dX7_account_31 : decode cX7_account 31 = .ok (.iload_n 2, 1) := by decide +kernel
theorem dX7_account_32 : decode cX7_account 32 = .ok (.tableswitch 60 0 2 #[28, 40, 50], 28) := by decide +kernel
theorem dX7_account_60 : decode cX7_account 60 = .ok (.aload_n 0, 1) := by decide +kernel
theorem dX7_account_61 : decode cX7_account 61 = .ok (.getfield 10, 3) := by decide +kernel
theorem dX7_account_64 : decode cX7_account 64 = .ok (.getfield 108, 3) := by decide +kernel
theorem dX7_account_67 : decode cX7_account 67 = .ok (.iload_n 1, 1) := by decide +kernel
theorem dX7_account_68 : decode cX7_account 68 = .ok (.invokevirtual 164, 3) := by decide +kernel
theorem dX7_account_71 : decode cX7_account 71 = .ok (.ireturn, 1) := by decide +kernel
theorem dX7_account_72 : decode cX7_account 72 = .ok (.aload_n 3, 1) := by decide +kernel
theorem dX7_account_73 : decode cX7_account 73 = .ok (.aload_n 3, 1) := by decide +kernel
theorem dX7_account_74 : decode cX7_account 74 = .ok (.getfield 73, 3) := by decide +kernel
theorem dX7_account_77 : decode cX7_account 77 = .ok (.iload_n 1, 1) := by decide +kernel
theorem dX7_account_78 : decode cX7_account 78 = .ok (.invokevirtual 167, 3) := by decide +kernel
theorem dX7_account_81 : decode cX7_account 81 = .ok (.ireturn, 1) := by decide +kernel
theorem dX7_account_82 : decode cX7_account 82 = .ok (.aload_n 3, 1) := by decide +kernel
theorem dX7_account_83 : decode cX7_account 83 = .ok (.aload_n 3, 1) := by decide +kernel
theorem dX7_account_84 : decode cX7_account 84 = .ok (.getfield 80, 3) := by decide +kernel
theorem dX7_account_87 : decode cX7_account 87 = .ok (.iload_n 1, 1) := by decide +kernel
theorem dX7_account_88 : decode cX7_account 88 = .ok (.invokevirtual 167, 3) := by decide +kernel
theorem dX7_account_91 : decode cX7_account 91 = .ok (.ireturn, 1) := by decide +kernel
theorem dX7_account_92 : decode cX7_account 92 = .ok (.aload_n 0, 1) := by decide +kernel
theorem dX7_account_93 : decode cX7_account 93 = .ok (.getfield 10, 3) := by decide +kernel
theorem dX7_account_96 : decode cX7_account 96 = .ok (.getfield 170, 3) := by decide +kernel
theorem dX7_account_99 : decode cX7_account 99 = .ok (.getfield 174, 3) := by decide +kernel
theorem dX7_account_102 : decode cX7_account 102 = .ok (.aload_n 0, 1) := by decide +kernel
theorem dX7_account_103 : decode cX7_account 103 = .ok (.getfield 10, 3) := by decide +kernel
theorem dX7_account_106 : decode cX7_account 106 = .ok (.getfield 170, 3) := by decide +kernel
theorem dX7_account_109 : decode cX7_account 109 = .ok (.iload_n 1, 1) := by decide +kernel
theorem dX7_account_110 : decode cX7_account 110 = .ok (.iload_n 2, 1) := by decide +kernel
theorem dX7_account_111 : decode cX7_account 111 = .ok (.iconst 3, 1) := by decide +kernel
theorem dX7_account_112 : decode cX7_account 112 = .ok (.isub, 1) := by decide +kernel
theorem dX7_account_113 : decode cX7_account 113 = .ok (.invokevirtual 177, 3) := by decide +kernel
theorem dX7_account_116 : decode cX7_account 116 = .ok (.iaload, 1) := by decide +kernel
theorem dX7_account_117 : decode cX7_account 117 = .ok (.ireturn, 1) := by decide +kernel
theorem dX7_cents_0 : decode cX7_cents 0 = .ok (.iload_n 1, 1) := by decide +kernel
theorem dX7_cents_1 : decode cX7_cents 1 = .ok (.ifCond .lt 9, 3) := by decide +kernel
theorem dX7_cents_4 : decode cX7_cents 4 = .ok (.iload_n 1, 1) := by decide +kernel
theorem dX7_cents_5 : decode cX7_cents 5 = .ok (.bipush 6, 2) := by decide +kernel
theorem dX7_cents_7 : decode cX7_cents 7 = .ok (.if_icmp .le 5, 3) := by decide +kernel
theorem dX7_cents_10 : decode cX7_cents 10 = .ok (.iconst (-1), 1) := by decide +kernel
theorem dX7_cents_11 : decode cX7_cents 11 = .ok (.ireturn, 1) := by decide +kernel
theorem dX7_cents_12 : decode cX7_cents 12 = .ok (.iload_n 1, 1) := by decide +kernel
theorem dX7_cents_13 : decode cX7_cents 13 = .ok (.lookupswitch 73 #[(0, 35), (1, 47), (6, 59)], 35) := by decide +kernel
theorem dX7_cents_48 : decode cX7_cents 48 = .ok (.aload_n 0, 1) := by decide +kernel
theorem dX7_cents_49 : decode cX7_cents 49 = .ok (.getfield 10, 3) := by decide +kernel
theorem dX7_cents_52 : decode cX7_cents 52 = .ok (.getfield 108, 3) := by decide +kernel
theorem dX7_cents_55 : decode cX7_cents 55 = .ok (.getfield 178, 3) := by decide +kernel
theorem dX7_cents_58 : decode cX7_cents 58 = .ok (.l2i, 1) := by decide +kernel
theorem dX7_cents_59 : decode cX7_cents 59 = .ok (.ireturn, 1) := by decide +kernel
theorem dX7_cents_60 : decode cX7_cents 60 = .ok (.aload_n 0, 1) := by decide +kernel
theorem dX7_cents_61 : decode cX7_cents 61 = .ok (.getfield 10, 3) := by decide +kernel
theorem dX7_cents_64 : decode cX7_cents 64 = .ok (.getfield 108, 3) := by decide +kernel
theorem dX7_cents_67 : decode cX7_cents 67 = .ok (.invokevirtual 182, 3) := by decide +kernel
theorem dX7_cents_70 : decode cX7_cents 70 = .ok (.l2i, 1) := by decide +kernel
theorem dX7_cents_71 : decode cX7_cents 71 = .ok (.ireturn, 1) := by decide +kernel
theorem dX7_cents_72 : decode cX7_cents 72 = .ok (.aload_n 0, 1) := by decide +kernel
theorem dX7_cents_73 : decode cX7_cents 73 = .ok (.getfield 10, 3) := by decide +kernel
theorem dX7_cents_76 : decode cX7_cents 76 = .ok (.getfield 170, 3) := by decide +kernel
theorem dX7_cents_79 : decode cX7_cents 79 = .ok (.getfield 186, 3) := by decide +kernel
theorem dX7_cents_82 : decode cX7_cents 82 = .ok (.invokestatic 189, 3) := by decide +kernel
theorem dX7_cents_85 : decode cX7_cents 85 = .ok (.ireturn, 1) := by decide +kernel
theorem dX7_cents_86 : decode cX7_cents 86 = .ok (.aload_n 0, 1) := by decide +kernel
theorem dX7_cents_87 : decode cX7_cents 87 = .ok (.getfield 10, 3) := by decide +kernel
theorem dX7_cents_90 : decode cX7_cents 90 = .ok (.getfield 170, 3) := by decide +kernel
theorem dX7_cents_93 : decode cX7_cents 93 = .ok (.getfield 193, 3) := by decide +kernel
theorem dX7_cents_96 : decode cX7_cents 96 = .ok (.iload_n 1, 1) := by decide +kernel
theorem dX7_cents_97 : decode cX7_cents 97 = .ok (.iconst 2, 1) := by decide +kernel
theorem dX7_cents_98 : decode cX7_cents 98 = .ok (.isub, 1) := by decide +kernel
theorem dX7_cents_99 : decode cX7_cents 99 = .ok (.laload, 1) := by decide +kernel
theorem dX7_cents_100 : decode cX7_cents 100 = .ok (.l2i, 1) := by decide +kernel
theorem dX7_cents_101 : decode cX7_cents 101 = .ok (.ireturn, 1) := by decide +kernel
theorem dX7_count_0 : decode cX7_count 0 = .ok (.iload_n 1, 1) := by decide +kernel
theorem dX7_count_1 : decode cX7_count 1 = .ok (.tableswitch 231 0 21 #[103, 114, 122, 133, 144, 155, 163, 171, 183, 195, 203, 231, 231, 231, 231, 231, 231, 231, 231, 231, 211, 221], 103) := by decide +kernel
theorem dX7_count_104 : decode cX7_count 104 = .ok (.aload_n 0, 1) := by decide +kernel
theorem dX7_count_105 : decode cX7_count 105 = .ok (.getfield 10, 3) := by decide +kernel
theorem dX7_count_108 : decode cX7_count 108 = .ok (.getfield 60, 3) := by decide +kernel
theorem dX7_count_111 : decode cX7_count 111 = .ok (.getfield 197, 3) := by decide +kernel
theorem dX7_count_114 : decode cX7_count 114 = .ok (.ireturn, 1) := by decide +kernel
theorem dX7_count_115 : decode cX7_count 115 = .ok (.aload_n 0, 1) := by decide +kernel
theorem dX7_count_116 : decode cX7_count 116 = .ok (.getfield 10, 3) := by decide +kernel
theorem dX7_count_119 : decode cX7_count 119 = .ok (.getfield 198, 3) := by decide +kernel
theorem dX7_count_122 : decode cX7_count 122 = .ok (.ireturn, 1) := by decide +kernel
theorem dX7_count_123 : decode cX7_count 123 = .ok (.aload_n 0, 1) := by decide +kernel
theorem dX7_count_124 : decode cX7_count 124 = .ok (.getfield 10, 3) := by decide +kernel
theorem dX7_count_127 : decode cX7_count 127 = .ok (.getfield 108, 3) := by decide +kernel
theorem dX7_count_130 : decode cX7_count 130 = .ok (.getfield 112, 3) := by decide +kernel
theorem dX7_count_133 : decode cX7_count 133 = .ok (.ireturn, 1) := by decide +kernel
theorem dX7_count_134 : decode cX7_count 134 = .ok (.aload_n 0, 1) := by decide +kernel
theorem dX7_count_135 : decode cX7_count 135 = .ok (.getfield 10, 3) := by decide +kernel
theorem dX7_count_138 : decode cX7_count 138 = .ok (.getfield 108, 3) := by decide +kernel
theorem dX7_count_141 : decode cX7_count 141 = .ok (.invokevirtual 201, 3) := by decide +kernel
theorem dX7_count_144 : decode cX7_count 144 = .ok (.ireturn, 1) := by decide +kernel
theorem dX7_count_145 : decode cX7_count 145 = .ok (.aload_n 0, 1) := by decide +kernel
theorem dX7_count_146 : decode cX7_count 146 = .ok (.getfield 10, 3) := by decide +kernel
theorem dX7_count_149 : decode cX7_count 149 = .ok (.getfield 89, 3) := by decide +kernel
theorem dX7_count_152 : decode cX7_count 152 = .ok (.getfield 93, 3) := by decide +kernel
theorem dX7_count_155 : decode cX7_count 155 = .ok (.ireturn, 1) := by decide +kernel
theorem dX7_count_156 : decode cX7_count 156 = .ok (.aload_n 0, 1) := by decide +kernel
theorem dX7_count_157 : decode cX7_count 157 = .ok (.getfield 10, 3) := by decide +kernel
theorem dX7_count_160 : decode cX7_count 160 = .ok (.getfield 204, 3) := by decide +kernel
theorem dX7_count_163 : decode cX7_count 163 = .ok (.ireturn, 1) := by decide +kernel
theorem dX7_count_164 : decode cX7_count 164 = .ok (.aload_n 0, 1) := by decide +kernel
theorem dX7_count_165 : decode cX7_count 165 = .ok (.getfield 10, 3) := by decide +kernel
theorem dX7_count_168 : decode cX7_count 168 = .ok (.getfield 207, 3) := by decide +kernel
theorem dX7_count_171 : decode cX7_count 171 = .ok (.ireturn, 1) := by decide +kernel
theorem dX7_count_172 : decode cX7_count 172 = .ok (.aload_n 0, 1) := by decide +kernel
theorem dX7_count_173 : decode cX7_count 173 = .ok (.getfield 10, 3) := by decide +kernel
theorem dX7_count_176 : decode cX7_count 176 = .ok (.getfield 60, 3) := by decide +kernel
theorem dX7_count_179 : decode cX7_count 179 = .ok (.iconst 1, 1) := by decide +kernel
theorem dX7_count_180 : decode cX7_count 180 = .ok (.invokevirtual 209, 3) := by decide +kernel
theorem dX7_count_183 : decode cX7_count 183 = .ok (.ireturn, 1) := by decide +kernel
theorem dX7_count_184 : decode cX7_count 184 = .ok (.aload_n 0, 1) := by decide +kernel
theorem dX7_count_185 : decode cX7_count 185 = .ok (.getfield 10, 3) := by decide +kernel
theorem dX7_count_188 : decode cX7_count 188 = .ok (.getfield 60, 3) := by decide +kernel
theorem dX7_count_191 : decode cX7_count 191 = .ok (.iconst 2, 1) := by decide +kernel
theorem dX7_count_192 : decode cX7_count 192 = .ok (.invokevirtual 209, 3) := by decide +kernel
theorem dX7_count_195 : decode cX7_count 195 = .ok (.ireturn, 1) := by decide +kernel
theorem dX7_count_196 : decode cX7_count 196 = .ok (.aload_n 0, 1) := by decide +kernel
theorem dX7_count_197 : decode cX7_count 197 = .ok (.getfield 22, 3) := by decide +kernel
theorem dX7_count_200 : decode cX7_count 200 = .ok (.getfield 212, 3) := by decide +kernel
theorem dX7_count_203 : decode cX7_count 203 = .ok (.ireturn, 1) := by decide +kernel
theorem dX7_count_204 : decode cX7_count 204 = .ok (.aload_n 0, 1) := by decide +kernel
theorem dX7_count_205 : decode cX7_count 205 = .ok (.getfield 29, 3) := by decide +kernel
theorem dX7_count_208 : decode cX7_count 208 = .ok (.getfield 213, 3) := by decide +kernel
theorem dX7_count_211 : decode cX7_count 211 = .ok (.ireturn, 1) := by decide +kernel
theorem dX7_count_212 : decode cX7_count 212 = .ok (.aload_n 0, 1) := by decide +kernel
theorem dX7_count_213 : decode cX7_count 213 = .ok (.getfield 10, 3) := by decide +kernel
theorem dX7_count_216 : decode cX7_count 216 = .ok (.getfield 216, 3) := by decide +kernel
theorem dX7_count_219 : decode cX7_count 219 = .ok (.iconst 0, 1) := by decide +kernel
theorem dX7_count_220 : decode cX7_count 220 = .ok (.iaload, 1) := by decide +kernel
theorem dX7_count_221 : decode cX7_count 221 = .ok (.ireturn, 1) := by decide +kernel
theorem dX7_count_222 : decode cX7_count 222 = .ok (.aload_n 0, 1) := by decide +kernel
theorem dX7_count_223 : decode cX7_count 223 = .ok (.getfield 10, 3) := by decide +kernel
theorem dX7_count_226 : decode cX7_count 226 = .ok (.getfield 216, 3) := by decide +kernel
theorem dX7_count_229 : decode cX7_count 229 = .ok (.iconst 1, 1) := by decide +kernel
theorem dX7_count_230 : decode cX7_count 230 = .ok (.iaload, 1) := by decide +kernel
theorem dX7_count_231 : decode cX7_count 231 = .ok (.ireturn, 1) := by decide +kernel
theorem dX7_count_232 : decode cX7_count 232 = .ok (.iconst (-1), 1) := by decide +kernel
theorem dX7_count_233 : decode cX7_count 233 = .ok (.ireturn, 1) := by decide +kernel
theorem dX7_undo_0 : decode cX7_undo 0 = .ok (.aload_n 0, 1) := by decide +kernel
theorem dX7_undo_1 : decode cX7_undo 1 = .ok (.getfield 22, 3) := by decide +kernel
theorem dX7_undo_4 : decode cX7_undo 4 = .ok (.aload_n 0, 1) := by decide +kernel
theorem dX7_undo_5 : decode cX7_undo 5 = .ok (.getfield 10, 3) := by decide +kernel
theorem dX7_undo_8 : decode cX7_undo 8 = .ok (.invokevirtual 219, 3) := by decide +kernel
theorem dX7_undo_11 : decode cX7_undo 11 = .ok (.ireturn, 1) := by decide +kernel
theorem dX7_worth_0 : decode cX7_worth 0 = .ok (.aload_n 0, 1) := by decide +kernel
theorem dX7_worth_1 : decode cX7_worth 1 = .ok (.getfield 10, 3) := by decide +kernel
theorem dX7_worth_4 : decode cX7_worth 4 = .ok (.iload_n 1, 1) := by decide +kernel
theorem dX7_worth_5 : decode cX7_worth 5 = .ok (.invokevirtual 83, 3) := by decide +kernel
theorem dX7_worth_8 : decode cX7_worth 8 = .ok (.ifCond .eq 14, 3) := by decide +kernel
theorem dX7_worth_11 : decode cX7_worth 11 = .ok (.iload_n 2, 1) := by decide +kernel
theorem dX7_worth_12 : decode cX7_worth 12 = .ok (.iconst 1, 1) := by decide +kernel
theorem dX7_worth_13 : decode cX7_worth 13 = .ok (.if_icmp .lt 9, 3) := by decide +kernel
theorem dX7_worth_16 : decode cX7_worth 16 = .ok (.iload_n 2, 1) := by decide +kernel
theorem dX7_worth_17 : decode cX7_worth 17 = .ok (.ldc 223, 2) := by decide +kernel
theorem dX7_worth_19 : decode cX7_worth 19 = .ok (.if_icmp .le 5, 3) := by decide +kernel
theorem dX7_worth_22 : decode cX7_worth 22 = .ok (.iconst (-1), 1) := by decide +kernel
theorem dX7_worth_23 : decode cX7_worth 23 = .ok (.ireturn, 1) := by decide +kernel
theorem dX7_worth_24 : decode cX7_worth 24 = .ok (.aload_n 0, 1) := by decide +kernel
theorem dX7_worth_25 : decode cX7_worth 25 = .ok (.getfield 10, 3) := by decide +kernel
theorem dX7_worth_28 : decode cX7_worth 28 = .ok (.getfield 108, 3) := by decide +kernel
theorem dX7_worth_31 : decode cX7_worth 31 = .ok (.iload_n 1, 1) := by decide +kernel
theorem dX7_worth_32 : decode cX7_worth 32 = .ok (.invokevirtual 224, 3) := by decide +kernel
theorem dX7_worth_35 : decode cX7_worth 35 = .ok (.iload_n 2, 1) := by decide +kernel
theorem dX7_worth_36 : decode cX7_worth 36 = .ok (.if_icmp .ge 6, 3) := by decide +kernel
theorem dX7_worth_39 : decode cX7_worth 39 = .ok (.bipush (-4), 2) := by decide +kernel
theorem dX7_worth_41 : decode cX7_worth 41 = .ok (.ireturn, 1) := by decide +kernel
theorem dX7_worth_42 : decode cX7_worth 42 = .ok (.aload_n 0, 1) := by decide +kernel
theorem dX7_worth_43 : decode cX7_worth 43 = .ok (.getfield 10, 3) := by decide +kernel
theorem dX7_worth_46 : decode cX7_worth 46 = .ok (.getfield 108, 3) := by decide +kernel
theorem dX7_worth_49 : decode cX7_worth 49 = .ok (.iload_n 1, 1) := by decide +kernel
theorem dX7_worth_50 : decode cX7_worth 50 = .ok (.iload_n 2, 1) := by decide +kernel
theorem dX7_worth_51 : decode cX7_worth 51 = .ok (.iconst 0, 1) := by decide +kernel
theorem dX7_worth_52 : decode cX7_worth 52 = .ok (.invokevirtual 227, 3) := by decide +kernel
theorem dX7_worth_55 : decode cX7_worth 55 = .ok (.l2i, 1) := by decide +kernel
theorem dX7_worth_56 : decode cX7_worth 56 = .ok (.ireturn, 1) := by decide +kernel
theorem dX7_toPay_0 : decode cX7_toPay 0 = .ok (.aload_n 0, 1) := by decide +kernel
theorem dX7_toPay_1 : decode cX7_toPay 1 = .ok (.getfield 10, 3) := by decide +kernel
theorem dX7_toPay_4 : decode cX7_toPay 4 = .ok (.invokevirtual 231, 3) := by decide +kernel
theorem dX7_toPay_7 : decode cX7_toPay 7 = .ok (.invokestatic 189, 3) := by decide +kernel
theorem dX7_toPay_10 : decode cX7_toPay 10 = .ok (.ireturn, 1) := by decide +kernel
theorem dX7_runsOut_0 : decode cX7_runsOut 0 = .ok (.aload_n 0, 1) := by decide +kernel
theorem dX7_runsOut_1 : decode cX7_runsOut 1 = .ok (.getfield 10, 3) := by decide +kernel
theorem dX7_runsOut_4 : decode cX7_runsOut 4 = .ok (.getfield 108, 3) := by decide +kernel
theorem dX7_runsOut_7 : decode cX7_runsOut 7 = .ok (.iconst (-1), 1) := by decide +kernel
theorem dX7_runsOut_8 : decode cX7_runsOut 8 = .ok (.iconst (-1), 1) := by decide +kernel
theorem dX7_runsOut_9 : decode cX7_runsOut 9 = .ok (.invokevirtual 136, 3) := by decide +kernel
theorem dX7_runsOut_12 : decode cX7_runsOut 12 = .ok (.istore_n 1, 1) := by decide +kernel
theorem dX7_runsOut_13 : decode cX7_runsOut 13 = .ok (.iload_n 1, 1) := by decide +kernel
theorem dX7_runsOut_14 : decode cX7_runsOut 14 = .ok (.iconst (-1), 1) := by decide +kernel
theorem dX7_runsOut_15 : decode cX7_runsOut 15 = .ok (.if_icmp .ne 8, 3) := by decide +kernel
theorem dX7_runsOut_18 : decode cX7_runsOut 18 = .ok (.bipush (-4), 2) := by decide +kernel
theorem dX7_runsOut_20 : decode cX7_runsOut 20 = .ok (.goto 25, 3) := by decide +kernel
theorem dX7_runsOut_23 : decode cX7_runsOut 23 = .ok (.aload_n 0, 1) := by decide +kernel
theorem dX7_runsOut_24 : decode cX7_runsOut 24 = .ok (.getfield 10, 3) := by decide +kernel
theorem dX7_runsOut_27 : decode cX7_runsOut 27 = .ok (.getfield 108, 3) := by decide +kernel
theorem dX7_runsOut_30 : decode cX7_runsOut 30 = .ok (.getfield 133, 3) := by decide +kernel
theorem dX7_runsOut_33 : decode cX7_runsOut 33 = .ok (.iload_n 1, 1) := by decide +kernel
theorem dX7_runsOut_34 : decode cX7_runsOut 34 = .ok (.iaload, 1) := by decide +kernel
theorem dX7_runsOut_35 : decode cX7_runsOut 35 = .ok (.iconst 1, 1) := by decide +kernel
theorem dX7_runsOut_36 : decode cX7_runsOut 36 = .ok (.iadd, 1) := by decide +kernel
theorem dX7_runsOut_37 : decode cX7_runsOut 37 = .ok (.aload_n 0, 1) := by decide +kernel
theorem dX7_runsOut_38 : decode cX7_runsOut 38 = .ok (.getfield 10, 3) := by decide +kernel
theorem dX7_runsOut_41 : decode cX7_runsOut 41 = .ok (.getfield 207, 3) := by decide +kernel
theorem dX7_runsOut_44 : decode cX7_runsOut 44 = .ok (.isub, 1) := by decide +kernel
theorem dX7_runsOut_45 : decode cX7_runsOut 45 = .ok (.ireturn, 1) := by decide +kernel
theorem dX7_type_0 : decode cX7_type 0 = .ok (.aload_n 0, 1) := by decide +kernel
theorem dX7_type_1 : decode cX7_type 1 = .ok (.getfield 29, 3) := by decide +kernel
theorem dX7_type_4 : decode cX7_type 4 = .ok (.iload_n 1, 1) := by decide +kernel
theorem dX7_type_5 : decode cX7_type 5 = .ok (.invokevirtual 234, 3) := by decide +kernel
theorem dX7_type_8 : decode cX7_type 8 = .ok (.ireturn, 1) := by decide +kernel
theorem dX7_fault_0 : decode cX7_fault 0 = .ok (.iload_n 1, 1) := by decide +kernel
theorem dX7_fault_1 : decode cX7_fault 1 = .ok (.ifCond .lt 8, 3) := by decide +kernel
theorem dX7_fault_4 : decode cX7_fault 4 = .ok (.iload_n 1, 1) := by decide +kernel
theorem dX7_fault_5 : decode cX7_fault 5 = .ok (.iconst 2, 1) := by decide +kernel
theorem dX7_fault_6 : decode cX7_fault 6 = .ok (.if_icmp .le 5, 3) := by decide +kernel
theorem dX7_fault_9 : decode cX7_fault 9 = .ok (.iconst (-1), 1) := by decide +kernel
theorem dX7_fault_10 : decode cX7_fault 10 = .ok (.ireturn, 1) := by decide +kernel
theorem dX7_fault_11 : decode cX7_fault 11 = .ok (.aload_n 0, 1) := by decide +kernel
theorem dX7_fault_12 : decode cX7_fault 12 = .ok (.getfield 29, 3) := by decide +kernel
theorem dX7_fault_15 : decode cX7_fault 15 = .ok (.aload_n 0, 1) := by decide +kernel
theorem dX7_fault_16 : decode cX7_fault 16 = .ok (.getfield 16, 3) := by decide +kernel
theorem dX7_fault_19 : decode cX7_fault 19 = .ok (.aload_n 0, 1) := by decide +kernel
theorem dX7_fault_20 : decode cX7_fault 20 = .ok (.getfield 10, 3) := by decide +kernel
theorem dX7_fault_23 : decode cX7_fault 23 = .ok (.invokevirtual 240, 3) := by decide +kernel
theorem dX7_fault_26 : decode cX7_fault 26 = .ok (.aload_n 0, 1) := by decide +kernel
theorem dX7_fault_27 : decode cX7_fault 27 = .ok (.getfield 29, 3) := by decide +kernel
theorem dX7_fault_30 : decode cX7_fault 30 = .ok (.getfield 244, 3) := by decide +kernel
theorem dX7_fault_33 : decode cX7_fault 33 = .ok (.ifCond .ne 6, 3) := by decide +kernel
theorem dX7_fault_36 : decode cX7_fault 36 = .ok (.bipush (-4), 2) := by decide +kernel
theorem dX7_fault_38 : decode cX7_fault 38 = .ok (.ireturn, 1) := by decide +kernel
theorem dX7_fault_39 : decode cX7_fault 39 = .ok (.iload_n 1, 1) := by decide +kernel
theorem dX7_fault_40 : decode cX7_fault 40 = .ok (.lookupswitch 44 #[(0, 28), (1, 36)], 28) := by decide +kernel
theorem dX7_fault_68 : decode cX7_fault 68 = .ok (.aload_n 0, 1) := by decide +kernel
theorem dX7_fault_69 : decode cX7_fault 69 = .ok (.getfield 29, 3) := by decide +kernel
theorem dX7_fault_72 : decode cX7_fault 72 = .ok (.getfield 247, 3) := by decide +kernel
theorem dX7_fault_75 : decode cX7_fault 75 = .ok (.ireturn, 1) := by decide +kernel
theorem dX7_fault_76 : decode cX7_fault 76 = .ok (.aload_n 0, 1) := by decide +kernel
theorem dX7_fault_77 : decode cX7_fault 77 = .ok (.getfield 29, 3) := by decide +kernel
theorem dX7_fault_80 : decode cX7_fault 80 = .ok (.getfield 244, 3) := by decide +kernel
theorem dX7_fault_83 : decode cX7_fault 83 = .ok (.ireturn, 1) := by decide +kernel
theorem dX7_fault_84 : decode cX7_fault 84 = .ok (.aload_n 0, 1) := by decide +kernel
theorem dX7_fault_85 : decode cX7_fault 85 = .ok (.getfield 29, 3) := by decide +kernel
theorem dX7_fault_88 : decode cX7_fault 88 = .ok (.getfield 244, 3) := by decide +kernel
theorem dX7_fault_91 : decode cX7_fault 91 = .ok (.iconst 2, 1) := by decide +kernel
theorem dX7_fault_92 : decode cX7_fault 92 = .ok (.if_icmp .ne 13, 3) := by decide +kernel
theorem dX7_fault_95 : decode cX7_fault 95 = .ok (.aload_n 0, 1) := by decide +kernel
theorem dX7_fault_96 : decode cX7_fault 96 = .ok (.getfield 29, 3) := by decide +kernel
theorem dX7_fault_99 : decode cX7_fault 99 = .ok (.getfield 250, 3) := by decide +kernel
theorem dX7_fault_102 : decode cX7_fault 102 = .ok (.goto 5, 3) := by decide +kernel
theorem dX7_fault_105 : decode cX7_fault 105 = .ok (.bipush (-4), 2) := by decide +kernel
theorem dX7_fault_107 : decode cX7_fault 107 = .ok (.ireturn, 1) := by decide +kernel
theorem dX7_centsOrLimit_0 : decode cX7_centsOrLimit 0 = .ok (.lload_n 0, 1) := by decide +kernel
theorem dX7_centsOrLimit_1 : decode cX7_centsOrLimit 1 = .ok (.ldc2_w 259, 3) := by decide +kernel
theorem dX7_centsOrLimit_4 : decode cX7_centsOrLimit 4 = .ok (.lcmp, 1) := by decide +kernel
theorem dX7_centsOrLimit_5 : decode cX7_centsOrLimit 5 = .ok (.ifCond .le 8, 3) := by decide +kernel
theorem dX7_centsOrLimit_8 : decode cX7_centsOrLimit 8 = .ok (.bipush (-3), 2) := by decide +kernel
theorem dX7_centsOrLimit_10 : decode cX7_centsOrLimit 10 = .ok (.goto 5, 3) := by decide +kernel
theorem dX7_centsOrLimit_13 : decode cX7_centsOrLimit 13 = .ok (.lload_n 0, 1) := by decide +kernel
theorem dX7_centsOrLimit_14 : decode cX7_centsOrLimit 14 = .ok (.l2i, 1) := by decide +kernel
theorem dX7_centsOrLimit_15 : decode cX7_centsOrLimit 15 = .ok (.ireturn, 1) := by decide +kernel
