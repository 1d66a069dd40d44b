theorem dX4_init_0 : decode cX4_init 0 = .ok (.aload_n 0, 1) := by decide +kernel
theorem dX4_init_1 : decode cX4_init 1 = .ok (.invokespecial 1, 3) := by decide +kernel
theorem dX4_init_4 : decode cX4_init 4 = .ok (.aload_n 0, 1) := by decide +kernel
theorem dX4_init_5 : decode cX4_init 5 = .ok (.bipush 127, 2) := by decide +kernel
theorem dX4_init_7 : decode cX4_init 7 = .ok (.newarray .int, 2) := by decide +kernel
theorem dX4_init_9 : decode cX4_init 9 = .ok (.putfield 7, 3) := by decide +kernel
theorem dX4_init_12 : decode cX4_init 12 = .ok (.aload_n 0, 1) := by decide +kernel
theorem dX4_init_13 : decode cX4_init 13 = .ok (.bipush 127, 2) := by decide +kernel
theorem dX4_init_15 : decode cX4_init 15 = .ok (.newarray .int, 2) := by decide +kernel
theorem dX4_init_17 : decode cX4_init 17 = .ok (.putfield 13, 3) := by decide +kernel
theorem dX4_init_20 : decode cX4_init 20 = .ok (.aload_n 0, 1) := by decide +kernel
theorem dX4_init_21 : decode cX4_init 21 = .ok (.bipush 127, 2) := by decide +kernel
theorem dX4_init_23 : decode cX4_init 23 = .ok (.newarray .int, 2) := by decide +kernel
theorem dX4_init_25 : decode cX4_init 25 = .ok (.putfield 16, 3) := by decide +kernel
theorem dX4_init_28 : decode cX4_init 28 = .ok (.aload_n 0, 1) := by decide +kernel
theorem dX4_init_29 : decode cX4_init 29 = .ok (.sipush 1016, 3) := by decide +kernel
theorem dX4_init_32 : decode cX4_init 32 = .ok (.newarray .int, 2) := by decide +kernel
theorem dX4_init_34 : decode cX4_init 34 = .ok (.putfield 19, 3) := by decide +kernel
theorem dX4_init_37 : decode cX4_init 37 = .ok (.aload_n 0, 1) := by decide +kernel
theorem dX4_init_38 : decode cX4_init 38 = .ok (.sipush 254, 3) := by decide +kernel
theorem dX4_init_41 : decode cX4_init 41 = .ok (.newarray .int, 2) := by decide +kernel
theorem dX4_init_43 : decode cX4_init 43 = .ok (.putfield 22, 3) := by decide +kernel
theorem dX4_init_46 : decode cX4_init 46 = .ok (.aload_n 0, 1) := by decide +kernel
theorem dX4_init_47 : decode cX4_init 47 = .ok (.iconst 2, 1) := by decide +kernel
theorem dX4_init_48 : decode cX4_init 48 = .ok (.newarray .boolean, 2) := by decide +kernel
theorem dX4_init_50 : decode cX4_init 50 = .ok (.putfield 25, 3) := by decide +kernel
theorem dX4_init_53 : decode cX4_init 53 = .ok (.aload_n 0, 1) := by decide +kernel
theorem dX4_init_54 : decode cX4_init 54 = .ok (.bipush 80, 2) := by decide +kernel
theorem dX4_init_56 : decode cX4_init 56 = .ok (.newarray .int, 2) := by decide +kernel
theorem dX4_init_58 : decode cX4_init 58 = .ok (.putfield 29, 3) := by decide +kernel
theorem dX4_init_61 : decode cX4_init 61 = .ok (.aload_n 0, 1) := by decide +kernel
theorem dX4_init_62 : decode cX4_init 62 = .ok (.bipush 6, 2) := by decide +kernel
theorem dX4_init_64 : decode cX4_init 64 = .ok (.newarray .int, 2) := by decide +kernel
theorem dX4_init_66 : decode cX4_init 66 = .ok (.putfield 32, 3) := by decide +kernel
theorem dX4_init_69 : decode cX4_init 69 = .ok (.aload_n 0, 1) := by decide +kernel
theorem dX4_init_70 : decode cX4_init 70 = .ok (.bipush 6, 2) := by decide +kernel
theorem dX4_init_72 : decode cX4_init 72 = .ok (.newarray .int, 2) := by decide +kernel
theorem dX4_init_74 : decode cX4_init 74 = .ok (.putfield 35, 3) := by decide +kernel
theorem dX4_init_77 : decode cX4_init 77 = .ok (.aload_n 0, 1) := by decide +kernel
theorem dX4_init_78 : decode cX4_init 78 = .ok (.invokevirtual 38, 3) := by decide +kernel
theorem dX4_init_81 : decode cX4_init 81 = .ok (.aload_n 0, 1) := by decide +kernel
theorem dX4_init_82 : decode cX4_init 82 = .ok (.getfield 13, 3) := by decide +kernel
theorem dX4_init_85 : decode cX4_init 85 = .ok (.invokestatic 41, 3) := by decide +kernel
theorem dX4_init_88 : decode cX4_init 88 = .ok (.aload_n 0, 1) := by decide +kernel
theorem dX4_init_89 : decode cX4_init 89 = .ok (.getfield 13, 3) := by decide +kernel
theorem dX4_init_92 : decode cX4_init 92 = .ok (.iconst 0, 1) := by decide +kernel
theorem dX4_init_93 : decode cX4_init 93 = .ok (.aload_n 0, 1) := by decide +kernel
theorem dX4_init_94 : decode cX4_init 94 = .ok (.getfield 7, 3) := by decide +kernel
theorem dX4_init_97 : decode cX4_init 97 = .ok (.iconst 0, 1) := by decide +kernel
theorem dX4_init_98 : decode cX4_init 98 = .ok (.invokestatic 45, 3) := by decide +kernel
theorem dX4_init_101 : decode cX4_init 101 = .ok (.return_, 1) := by decide +kernel
theorem dX4_in_0 : decode cX4_in 0 = .ok (.iload_n 0, 1) := by decide +kernel
theorem dX4_in_1 : decode cX4_in 1 = .ok (.iload_n 1, 1) := by decide +kernel
theorem dX4_in_2 : decode cX4_in 2 = .ok (.if_icmp .lt 12, 3) := by decide +kernel
theorem dX4_in_5 : decode cX4_in 5 = .ok (.iload_n 0, 1) := by decide +kernel
theorem dX4_in_6 : decode cX4_in 6 = .ok (.iload_n 2, 1) := by decide +kernel
theorem dX4_in_7 : decode cX4_in 7 = .ok (.if_icmp .gt 7, 3) := by decide +kernel
theorem dX4_in_10 : decode cX4_in 10 = .ok (.iconst 1, 1) := by decide +kernel
theorem dX4_in_11 : decode cX4_in 11 = .ok (.goto 4, 3) := by decide +kernel
theorem dX4_in_14 : decode cX4_in 14 = .ok (.iconst 0, 1) := by decide +kernel
theorem dX4_in_15 : decode cX4_in 15 = .ok (.ireturn, 1) := by decide +kernel
theorem dX4_copyState_0 : decode cX4_copyState 0 = .ok (.iconst 0, 1) := by decide +kernel
theorem dX4_copyState_1 : decode cX4_copyState 1 = .ok (.istore 4, 2) := by decide +kernel
theorem dX4_copyState_3 : decode cX4_copyState 3 = .ok (.iload 4, 2) := by decide +kernel
theorem dX4_copyState_5 : decode cX4_copyState 5 = .ok (.bipush 127, 2) := by decide +kernel
theorem dX4_copyState_7 : decode cX4_copyState 7 = .ok (.if_icmp .ge 21, 3) := by decide +kernel
theorem dX4_copyState_10 : decode cX4_copyState 10 = .ok (.aload_n 2, 1) := by decide +kernel
theorem dX4_copyState_11 : decode cX4_copyState 11 = .ok (.iload_n 3, 1) := by decide +kernel
theorem dX4_copyState_12 : decode cX4_copyState 12 = .ok (.iload 4, 2) := by decide +kernel
theorem dX4_copyState_14 : decode cX4_copyState 14 = .ok (.iadd, 1) := by decide +kernel
theorem dX4_copyState_15 : decode cX4_copyState 15 = .ok (.aload_n 0, 1) := by decide +kernel
theorem dX4_copyState_16 : decode cX4_copyState 16 = .ok (.iload_n 1, 1) := by decide +kernel
theorem dX4_copyState_17 : decode cX4_copyState 17 = .ok (.iload 4, 2) := by decide +kernel
theorem dX4_copyState_19 : decode cX4_copyState 19 = .ok (.iadd, 1) := by decide +kernel
theorem dX4_copyState_20 : decode cX4_copyState 20 = .ok (.iaload, 1) := by decide +kernel
theorem dX4_copyState_21 : decode cX4_copyState 21 = .ok (.iastore, 1) := by decide +kernel
theorem dX4_copyState_22 : decode cX4_copyState 22 = .ok (.iinc 4 1, 3) := by decide +kernel
theorem dX4_copyState_25 : decode cX4_copyState 25 = .ok (.goto (-22), 3) := by decide +kernel
theorem dX4_copyState_28 : decode cX4_copyState 28 = .ok (.return_, 1) := by decide +kernel
theorem dX4_save_0 : decode cX4_save 0 = .ok (.aload_n 0, 1) := by decide +kernel
theorem dX4_save_1 : decode cX4_save 1 = .ok (.getfield 49, 3) := by decide +kernel
theorem dX4_save_4 : decode cX4_save 4 = .ok (.bipush 8, 2) := by decide +kernel
theorem dX4_save_6 : decode cX4_save 6 = .ok (.if_icmp .ne 43, 3) := by decide +kernel
theorem dX4_save_9 : decode cX4_save 9 = .ok (.iconst 0, 1) := by decide +kernel
theorem dX4_save_10 : decode cX4_save 10 = .ok (.istore_n 1, 1) := by decide +kernel
theorem dX4_save_11 : decode cX4_save 11 = .ok (.iload_n 1, 1) := by decide +kernel
theorem dX4_save_12 : decode cX4_save 12 = .ok (.sipush 889, 3) := by decide +kernel
theorem dX4_save_15 : decode cX4_save 15 = .ok (.if_icmp .ge 24, 3) := by decide +kernel
theorem dX4_save_18 : decode cX4_save 18 = .ok (.aload_n 0, 1) := by decide +kernel
theorem dX4_save_19 : decode cX4_save 19 = .ok (.getfield 19, 3) := by decide +kernel
theorem dX4_save_22 : decode cX4_save 22 = .ok (.iload_n 1, 1) := by decide +kernel
theorem dX4_save_23 : decode cX4_save 23 = .ok (.aload_n 0, 1) := by decide +kernel
theorem dX4_save_24 : decode cX4_save 24 = .ok (.getfield 19, 3) := by decide +kernel
theorem dX4_save_27 : decode cX4_save 27 = .ok (.iload_n 1, 1) := by decide +kernel
theorem dX4_save_28 : decode cX4_save 28 = .ok (.bipush 127, 2) := by decide +kernel
theorem dX4_save_30 : decode cX4_save 30 = .ok (.iadd, 1) := by decide +kernel
theorem dX4_save_31 : decode cX4_save 31 = .ok (.iaload, 1) := by decide +kernel
theorem dX4_save_32 : decode cX4_save 32 = .ok (.iastore, 1) := by decide +kernel
theorem dX4_save_33 : decode cX4_save 33 = .ok (.iinc 1 1, 3) := by decide +kernel
theorem dX4_save_36 : decode cX4_save 36 = .ok (.goto (-25), 3) := by decide +kernel
theorem dX4_save_39 : decode cX4_save 39 = .ok (.aload_n 0, 1) := by decide +kernel
theorem dX4_save_40 : decode cX4_save 40 = .ok (.dup, 1) := by decide +kernel
theorem dX4_save_41 : decode cX4_save 41 = .ok (.getfield 49, 3) := by decide +kernel
theorem dX4_save_44 : decode cX4_save 44 = .ok (.iconst 1, 1) := by decide +kernel
theorem dX4_save_45 : decode cX4_save 45 = .ok (.isub, 1) := by decide +kernel
theorem dX4_save_46 : decode cX4_save 46 = .ok (.putfield 49, 3) := by decide +kernel
theorem dX4_save_49 : decode cX4_save 49 = .ok (.aload_n 0, 1) := by decide +kernel
theorem dX4_save_50 : decode cX4_save 50 = .ok (.getfield 7, 3) := by decide +kernel
theorem dX4_save_53 : decode cX4_save 53 = .ok (.iconst 0, 1) := by decide +kernel
theorem dX4_save_54 : decode cX4_save 54 = .ok (.aload_n 0, 1) := by decide +kernel
theorem dX4_save_55 : decode cX4_save 55 = .ok (.getfield 19, 3) := by decide +kernel
theorem dX4_save_58 : decode cX4_save 58 = .ok (.bipush 127, 2) := by decide +kernel
theorem dX4_save_60 : decode cX4_save 60 = .ok (.aload_n 0, 1) := by decide +kernel
theorem dX4_save_61 : decode cX4_save 61 = .ok (.getfield 49, 3) := by decide +kernel
theorem dX4_save_64 : decode cX4_save 64 = .ok (.imul, 1) := by decide +kernel
theorem dX4_save_65 : decode cX4_save 65 = .ok (.invokestatic 45, 3) := by decide +kernel
theorem dX4_save_68 : decode cX4_save 68 = .ok (.aload_n 0, 1) := by decide +kernel
theorem dX4_save_69 : decode cX4_save 69 = .ok (.dup, 1) := by decide +kernel
theorem dX4_save_70 : decode cX4_save 70 = .ok (.getfield 49, 3) := by decide +kernel
theorem dX4_save_73 : decode cX4_save 73 = .ok (.iconst 1, 1) := by decide +kernel
theorem dX4_save_74 : decode cX4_save 74 = .ok (.iadd, 1) := by decide +kernel
theorem dX4_save_75 : decode cX4_save 75 = .ok (.putfield 49, 3) := by decide +kernel
theorem dX4_save_78 : decode cX4_save 78 = .ok (.return_, 1) := by decide +kernel
theorem dX4_beginRead_0 : decode cX4_beginRead 0 = .ok (.iconst 0, 1) := by decide +kernel
theorem dX4_beginRead_1 : decode cX4_beginRead 1 = .ok (.istore_n 1, 1) := by decide +kernel
theorem dX4_beginRead_2 : decode cX4_beginRead 2 = .ok (.iload_n 1, 1) := by decide +kernel
theorem dX4_beginRead_3 : decode cX4_beginRead 3 = .ok (.bipush 127, 2) := by decide +kernel
theorem dX4_beginRead_5 : decode cX4_beginRead 5 = .ok (.if_icmp .ge 16, 3) := by decide +kernel
theorem dX4_beginRead_8 : decode cX4_beginRead 8 = .ok (.aload_n 0, 1) := by decide +kernel
theorem dX4_beginRead_9 : decode cX4_beginRead 9 = .ok (.getfield 13, 3) := by decide +kernel
theorem dX4_beginRead_12 : decode cX4_beginRead 12 = .ok (.iload_n 1, 1) := by decide +kernel
theorem dX4_beginRead_13 : decode cX4_beginRead 13 = .ok (.iconst 0, 1) := by decide +kernel
theorem dX4_beginRead_14 : decode cX4_beginRead 14 = .ok (.iastore, 1) := by decide +kernel
theorem dX4_beginRead_15 : decode cX4_beginRead 15 = .ok (.iinc 1 1, 3) := by decide +kernel
theorem dX4_beginRead_18 : decode cX4_beginRead 18 = .ok (.goto (-16), 3) := by decide +kernel
theorem dX4_beginRead_21 : decode cX4_beginRead 21 = .ok (.aload_n 0, 1) := by decide +kernel
theorem dX4_beginRead_22 : decode cX4_beginRead 22 = .ok (.getfield 13, 3) := by decide +kernel
theorem dX4_beginRead_25 : decode cX4_beginRead 25 = .ok (.iconst 0, 1) := by decide +kernel
theorem dX4_beginRead_26 : decode cX4_beginRead 26 = .ok (.iconst 3, 1) := by decide +kernel
theorem dX4_beginRead_27 : decode cX4_beginRead 27 = .ok (.iastore, 1) := by decide +kernel
theorem dX4_beginRead_28 : decode cX4_beginRead 28 = .ok (.iconst 0, 1) := by decide +kernel
theorem dX4_beginRead_29 : decode cX4_beginRead 29 = .ok (.istore_n 1, 1) := by decide +kernel
theorem dX4_beginRead_30 : decode cX4_beginRead 30 = .ok (.iload_n 1, 1) := by decide +kernel
theorem dX4_beginRead_31 : decode cX4_beginRead 31 = .ok (.iconst 4, 1) := by decide +kernel
theorem dX4_beginRead_32 : decode cX4_beginRead 32 = .ok (.if_icmp .ge 49, 3) := by decide +kernel
theorem dX4_beginRead_35 : decode cX4_beginRead 35 = .ok (.aload_n 0, 1) := by decide +kernel
theorem dX4_beginRead_36 : decode cX4_beginRead 36 = .ok (.getfield 13, 3) := by decide +kernel
theorem dX4_beginRead_39 : decode cX4_beginRead 39 = .ok (.iconst 2, 1) := by decide +kernel
theorem dX4_beginRead_40 : decode cX4_beginRead 40 = .ok (.iconst 3, 1) := by decide +kernel
theorem dX4_beginRead_41 : decode cX4_beginRead 41 = .ok (.iload_n 1, 1) := by decide +kernel
theorem dX4_beginRead_42 : decode cX4_beginRead 42 = .ok (.imul, 1) := by decide +kernel
theorem dX4_beginRead_43 : decode cX4_beginRead 43 = .ok (.iadd, 1) := by decide +kernel
theorem dX4_beginRead_44 : decode cX4_beginRead 44 = .ok (.bipush 99, 2) := by decide +kernel
theorem dX4_beginRead_46 : decode cX4_beginRead 46 = .ok (.iastore, 1) := by decide +kernel
theorem dX4_beginRead_47 : decode cX4_beginRead 47 = .ok (.aload_n 0, 1) := by decide +kernel
theorem dX4_beginRead_48 : decode cX4_beginRead 48 = .ok (.getfield 13, 3) := by decide +kernel
theorem dX4_beginRead_51 : decode cX4_beginRead 51 = .ok (.iconst 2, 1) := by decide +kernel
theorem dX4_beginRead_52 : decode cX4_beginRead 52 = .ok (.iconst 3, 1) := by decide +kernel
theorem dX4_beginRead_53 : decode cX4_beginRead 53 = .ok (.iload_n 1, 1) := by decide +kernel
theorem dX4_beginRead_54 : decode cX4_beginRead 54 = .ok (.imul, 1) := by decide +kernel
theorem dX4_beginRead_55 : decode cX4_beginRead 55 = .ok (.iadd, 1) := by decide +kernel
theorem dX4_beginRead_56 : decode cX4_beginRead 56 = .ok (.iconst 1, 1) := by decide +kernel
theorem dX4_beginRead_57 : decode cX4_beginRead 57 = .ok (.iadd, 1) := by decide +kernel
theorem dX4_beginRead_58 : decode cX4_beginRead 58 = .ok (.bipush 9, 2) := by decide +kernel
theorem dX4_beginRead_60 : decode cX4_beginRead 60 = .ok (.iastore, 1) := by decide +kernel
theorem dX4_beginRead_61 : decode cX4_beginRead 61 = .ok (.aload_n 0, 1) := by decide +kernel
theorem dX4_beginRead_62 : decode cX4_beginRead 62 = .ok (.getfield 13, 3) := by decide +kernel
theorem dX4_beginRead_65 : decode cX4_beginRead 65 = .ok (.iconst 2, 1) := by decide +kernel
theorem dX4_beginRead_66 : decode cX4_beginRead 66 = .ok (.iconst 3, 1) := by decide +kernel
theorem dX4_beginRead_67 : decode cX4_beginRead 67 = .ok (.iload_n 1, 1) := by decide +kernel
theorem dX4_beginRead_68 : decode cX4_beginRead 68 = .ok (.imul, 1) := by decide +kernel
theorem dX4_beginRead_69 : decode cX4_beginRead 69 = .ok (.iadd, 1) := by decide +kernel
theorem dX4_beginRead_70 : decode cX4_beginRead 70 = .ok (.iconst 2, 1) := by decide +kernel
theorem dX4_beginRead_71 : decode cX4_beginRead 71 = .ok (.iadd, 1) := by decide +kernel
theorem dX4_beginRead_72 : decode cX4_beginRead 72 = .ok (.bipush 99, 2) := by decide +kernel
theorem dX4_beginRead_74 : decode cX4_beginRead 74 = .ok (.iastore, 1) := by decide +kernel
theorem dX4_beginRead_75 : decode cX4_beginRead 75 = .ok (.iinc 1 1, 3) := by decide +kernel
theorem dX4_beginRead_78 : decode cX4_beginRead 78 = .ok (.goto (-48), 3) := by decide +kernel
theorem dX4_beginRead_81 : decode cX4_beginRead 81 = .ok (.return_, 1) := by decide +kernel
theorem dX4_setBudgetsFor_0 : decode cX4_setBudgetsFor 0 = .ok (.aload_n 0, 1) := by decide +kernel
theorem dX4_setBudgetsFor_1 : decode cX4_setBudgetsFor 1 = .ok (.iconst 0, 1) := by decide +kernel
theorem dX4_setBudgetsFor_2 : decode cX4_setBudgetsFor 2 = .ok (.iaload, 1) := by decide +kernel
theorem dX4_setBudgetsFor_3 : decode cX4_setBudgetsFor 3 = .ok (.iconst 1, 1) := by decide +kernel
theorem dX4_setBudgetsFor_4 : decode cX4_setBudgetsFor 4 = .ok (.isub, 1) := by decide +kernel
theorem dX4_setBudgetsFor_5 : decode cX4_setBudgetsFor 5 = .ok (.istore_n 2, 1) := by decide +kernel
theorem dX4_setBudgetsFor_6 : decode cX4_setBudgetsFor 6 = .ok (.aload_n 0, 1) := by decide +kernel
theorem dX4_setBudgetsFor_7 : decode cX4_setBudgetsFor 7 = .ok (.iconst 2, 1) := by decide +kernel
theorem dX4_setBudgetsFor_8 : decode cX4_setBudgetsFor 8 = .ok (.iconst 3, 1) := by decide +kernel
theorem dX4_setBudgetsFor_9 : decode cX4_setBudgetsFor 9 = .ok (.iload_n 1, 1) := by decide +kernel
theorem dX4_setBudgetsFor_10 : decode cX4_setBudgetsFor 10 = .ok (.imul, 1) := by decide +kernel
theorem dX4_setBudgetsFor_11 : decode cX4_setBudgetsFor 11 = .ok (.iadd, 1) := by decide +kernel
theorem dX4_setBudgetsFor_12 : decode cX4_setBudgetsFor 12 = .ok (.iaload, 1) := by decide +kernel
theorem dX4_setBudgetsFor_13 : decode cX4_setBudgetsFor 13 = .ok (.istore_n 3, 1) := by decide +kernel
theorem dX4_setBudgetsFor_14 : decode cX4_setBudgetsFor 14 = .ok (.iload_n 3, 1) := by decide +kernel
theorem dX4_setBudgetsFor_15 : decode cX4_setBudgetsFor 15 = .ok (.iload_n 2, 1) := by decide +kernel
theorem dX4_setBudgetsFor_16 : decode cX4_setBudgetsFor 16 = .ok (.irem, 1) := by decide +kernel
theorem dX4_setBudgetsFor_17 : decode cX4_setBudgetsFor 17 = .ok (.istore 4, 2) := by decide +kernel
theorem dX4_setBudgetsFor_19 : decode cX4_setBudgetsFor 19 = .ok (.iconst 0, 1) := by decide +kernel
theorem dX4_setBudgetsFor_20 : decode cX4_setBudgetsFor 20 = .ok (.istore 5, 2) := by decide +kernel
theorem dX4_setBudgetsFor_22 : decode cX4_setBudgetsFor 22 = .ok (.iload 5, 2) := by decide +kernel
theorem dX4_setBudgetsFor_24 : decode cX4_setBudgetsFor 24 = .ok (.aload_n 0, 1) := by decide +kernel
theorem dX4_setBudgetsFor_25 : decode cX4_setBudgetsFor 25 = .ok (.iconst 0, 1) := by decide +kernel
theorem dX4_setBudgetsFor_26 : decode cX4_setBudgetsFor 26 = .ok (.iaload, 1) := by decide +kernel
theorem dX4_setBudgetsFor_27 : decode cX4_setBudgetsFor 27 = .ok (.if_icmp .ge 43, 3) := by decide +kernel
theorem dX4_setBudgetsFor_30 : decode cX4_setBudgetsFor 30 = .ok (.iload 5, 2) := by decide +kernel
theorem dX4_setBudgetsFor_32 : decode cX4_setBudgetsFor 32 = .ok (.iload_n 1, 1) := by decide +kernel
theorem dX4_setBudgetsFor_33 : decode cX4_setBudgetsFor 33 = .ok (.if_icmp .eq 31, 3) := by decide +kernel
theorem dX4_setBudgetsFor_36 : decode cX4_setBudgetsFor 36 = .ok (.aload_n 0, 1) := by decide +kernel
theorem dX4_setBudgetsFor_37 : decode cX4_setBudgetsFor 37 = .ok (.bipush 111, 2) := by decide +kernel
theorem dX4_setBudgetsFor_39 : decode cX4_setBudgetsFor 39 = .ok (.iconst 4, 1) := by decide +kernel
theorem dX4_setBudgetsFor_40 : decode cX4_setBudgetsFor 40 = .ok (.iload 5, 2) := by decide +kernel
theorem dX4_setBudgetsFor_42 : decode cX4_setBudgetsFor 42 = .ok (.imul, 1) := by decide +kernel
theorem dX4_setBudgetsFor_43 : decode cX4_setBudgetsFor 43 = .ok (.iadd, 1) := by decide +kernel
theorem dX4_setBudgetsFor_44 : decode cX4_setBudgetsFor 44 = .ok (.iload_n 1, 1) := by decide +kernel
theorem dX4_setBudgetsFor_45 : decode cX4_setBudgetsFor 45 = .ok (.iadd, 1) := by decide +kernel
theorem dX4_setBudgetsFor_46 : decode cX4_setBudgetsFor 46 = .ok (.iload_n 3, 1) := by decide +kernel
theorem dX4_setBudgetsFor_47 : decode cX4_setBudgetsFor 47 = .ok (.iload_n 2, 1) := by decide +kernel
theorem dX4_setBudgetsFor_48 : decode cX4_setBudgetsFor 48 = .ok (.idiv, 1) := by decide +kernel
theorem dX4_setBudgetsFor_49 : decode cX4_setBudgetsFor 49 = .ok (.iload 4, 2) := by decide +kernel
theorem dX4_setBudgetsFor_51 : decode cX4_setBudgetsFor 51 = .ok (.ifCond .le 7, 3) := by decide +kernel
theorem dX4_setBudgetsFor_54 : decode cX4_setBudgetsFor 54 = .ok (.iconst 1, 1) := by decide +kernel
theorem dX4_setBudgetsFor_55 : decode cX4_setBudgetsFor 55 = .ok (.goto 4, 3) := by decide +kernel
theorem dX4_setBudgetsFor_58 : decode cX4_setBudgetsFor 58 = .ok (.iconst 0, 1) := by decide +kernel
theorem dX4_setBudgetsFor_59 : decode cX4_setBudgetsFor 59 = .ok (.iadd, 1) := by decide +kernel
theorem dX4_setBudgetsFor_60 : decode cX4_setBudgetsFor 60 = .ok (.iastore, 1) := by decide +kernel
theorem dX4_setBudgetsFor_61 : decode cX4_setBudgetsFor 61 = .ok (.iinc 4 (-1), 3) := by decide +kernel
theorem dX4_setBudgetsFor_64 : decode cX4_setBudgetsFor 64 = .ok (.iinc 5 1, 3) := by decide +kernel
theorem dX4_setBudgetsFor_67 : decode cX4_setBudgetsFor 67 = .ok (.goto (-45), 3) := by decide +kernel
theorem dX4_setBudgetsFor_70 : decode cX4_setBudgetsFor 70 = .ok (.return_, 1) := by decide +kernel
theorem dX4_setBudgets_0 : decode cX4_setBudgets 0 = .ok (.iconst 0, 1) := by decide +kernel
theorem dX4_setBudgets_1 : decode cX4_setBudgets 1 = .ok (.istore_n 1, 1) := by decide +kernel
theorem dX4_setBudgets_2 : decode cX4_setBudgets 2 = .ok (.iload_n 1, 1) := by decide +kernel
theorem dX4_setBudgets_3 : decode cX4_setBudgets 3 = .ok (.aload_n 0, 1) := by decide +kernel
theorem dX4_setBudgets_4 : decode cX4_setBudgets 4 = .ok (.iconst 0, 1) := by decide +kernel
theorem dX4_setBudgets_5 : decode cX4_setBudgets 5 = .ok (.iaload, 1) := by decide +kernel
theorem dX4_setBudgets_6 : decode cX4_setBudgets 6 = .ok (.if_icmp .ge 14, 3) := by decide +kernel
theorem dX4_setBudgets_9 : decode cX4_setBudgets 9 = .ok (.aload_n 0, 1) := by decide +kernel
theorem dX4_setBudgets_10 : decode cX4_setBudgets 10 = .ok (.iload_n 1, 1) := by decide +kernel
theorem dX4_setBudgets_11 : decode cX4_setBudgets 11 = .ok (.invokestatic 53, 3) := by decide +kernel
theorem dX4_setBudgets_14 : decode cX4_setBudgets 14 = .ok (.iinc 1 1, 3) := by decide +kernel
theorem dX4_setBudgets_17 : decode cX4_setBudgets 17 = .ok (.goto (-15), 3) := by decide +kernel
theorem dX4_setBudgets_20 : decode cX4_setBudgets 20 = .ok (.return_, 1) := by decide +kernel
theorem dX4_isLetter_0 : decode cX4_isLetter 0 = .ok (.aload_n 0, 1) := by decide +kernel
theorem dX4_isLetter_1 : decode cX4_isLetter 1 = .ok (.getfield 57, 3) := by decide +kernel
theorem dX4_isLetter_4 : decode cX4_isLetter 4 = .ok (.aload_n 0, 1) := by decide +kernel
theorem dX4_isLetter_5 : decode cX4_isLetter 5 = .ok (.getfield 60, 3) := by decide +kernel
theorem dX4_isLetter_8 : decode cX4_isLetter 8 = .ok (.if_icmp .ge 26, 3) := by decide +kernel
theorem dX4_isLetter_11 : decode cX4_isLetter 11 = .ok (.aload_n 0, 1) := by decide +kernel
theorem dX4_isLetter_12 : decode cX4_isLetter 12 = .ok (.getfield 29, 3) := by decide +kernel
theorem dX4_isLetter_15 : decode cX4_isLetter 15 = .ok (.aload_n 0, 1) := by decide +kernel
theorem dX4_isLetter_16 : decode cX4_isLetter 16 = .ok (.getfield 57, 3) := by decide +kernel
theorem dX4_isLetter_19 : decode cX4_isLetter 19 = .ok (.iaload, 1) := by decide +kernel
theorem dX4_isLetter_20 : decode cX4_isLetter 20 = .ok (.bipush 97, 2) := by decide +kernel
theorem dX4_isLetter_22 : decode cX4_isLetter 22 = .ok (.bipush 122, 2) := by decide +kernel
theorem dX4_isLetter_24 : decode cX4_isLetter 24 = .ok (.invokestatic 63, 3) := by decide +kernel
theorem dX4_isLetter_27 : decode cX4_isLetter 27 = .ok (.ifCond .eq 7, 3) := by decide +kernel
theorem dX4_isLetter_30 : decode cX4_isLetter 30 = .ok (.iconst 1, 1) := by decide +kernel
theorem dX4_isLetter_31 : decode cX4_isLetter 31 = .ok (.goto 4, 3) := by decide +kernel
theorem dX4_isLetter_34 : decode cX4_isLetter 34 = .ok (.iconst 0, 1) := by decide +kernel
theorem dX4_isLetter_35 : decode cX4_isLetter 35 = .ok (.ireturn, 1) := by decide +kernel
theorem dX4_isDigit_0 : decode cX4_isDigit 0 = .ok (.aload_n 0, 1) := by decide +kernel
theorem dX4_isDigit_1 : decode cX4_isDigit 1 = .ok (.getfield 57, 3) := by decide +kernel
theorem dX4_isDigit_4 : decode cX4_isDigit 4 = .ok (.aload_n 0, 1) := by decide +kernel
theorem dX4_isDigit_5 : decode cX4_isDigit 5 = .ok (.getfield 60, 3) := by decide +kernel
theorem dX4_isDigit_8 : decode cX4_isDigit 8 = .ok (.if_icmp .ge 26, 3) := by decide +kernel
theorem dX4_isDigit_11 : decode cX4_isDigit 11 = .ok (.aload_n 0, 1) := by decide +kernel
theorem dX4_isDigit_12 : decode cX4_isDigit 12 = .ok (.getfield 29, 3) := by decide +kernel
theorem dX4_isDigit_15 : decode cX4_isDigit 15 = .ok (.aload_n 0, 1) := by decide +kernel
theorem dX4_isDigit_16 : decode cX4_isDigit 16 = .ok (.getfield 57, 3) := by decide +kernel
theorem dX4_isDigit_19 : decode cX4_isDigit 19 = .ok (.iaload, 1) := by decide +kernel
theorem dX4_isDigit_20 : decode cX4_isDigit 20 = .ok (.bipush 48, 2) := by decide +kernel
theorem dX4_isDigit_22 : decode cX4_isDigit 22 = .ok (.bipush 57, 2) := by decide +kernel
theorem dX4_isDigit_24 : decode cX4_isDigit 24 = .ok (.invokestatic 63, 3) := by decide +kernel
theorem dX4_isDigit_27 : decode cX4_isDigit 27 = .ok (.ifCond .eq 7, 3) := by decide +kernel
theorem dX4_isDigit_30 : decode cX4_isDigit 30 = .ok (.iconst 1, 1) := by decide +kernel
theorem dX4_isDigit_31 : decode cX4_isDigit 31 = .ok (.goto 4, 3) := by decide +kernel
theorem dX4_isDigit_34 : decode cX4_isDigit 34 = .ok (.iconst 0, 1) := by decide +kernel
theorem dX4_isDigit_35 : decode cX4_isDigit 35 = .ok (.ireturn, 1) := by decide +kernel
theorem dX4_wordToken_0 : decode cX4_wordToken 0 = .ok (.lconst 0, 1) := by decide +kernel
theorem dX4_wordToken_1 : decode cX4_wordToken 1 = .ok (.lstore_n 1, 1) := by decide +kernel
theorem dX4_wordToken_2 : decode cX4_wordToken 2 = .ok (.aload_n 0, 1) := by decide +kernel
theorem dX4_wordToken_3 : decode cX4_wordToken 3 = .ok (.getfield 57, 3) := by decide +kernel
theorem dX4_wordToken_6 : decode cX4_wordToken 6 = .ok (.iconst 1, 1) := by decide +kernel
theorem dX4_wordToken_7 : decode cX4_wordToken 7 = .ok (.isub, 1) := by decide +kernel
theorem dX4_wordToken_8 : decode cX4_wordToken 8 = .ok (.istore_n 3, 1) := by decide +kernel
theorem dX4_wordToken_9 : decode cX4_wordToken 9 = .ok (.iload_n 3, 1) := by decide +kernel
theorem dX4_wordToken_10 : decode cX4_wordToken 10 = .ok (.aload_n 0, 1) := by decide +kernel
theorem dX4_wordToken_11 : decode cX4_wordToken 11 = .ok (.getfield 67, 3) := by decide +kernel
theorem dX4_wordToken_14 : decode cX4_wordToken 14 = .ok (.if_icmp .lt 43, 3) := by decide +kernel
theorem dX4_wordToken_17 : decode cX4_wordToken 17 = .ok (.aload_n 0, 1) := by decide +kernel
theorem dX4_wordToken_18 : decode cX4_wordToken 18 = .ok (.getfield 57, 3) := by decide +kernel
theorem dX4_wordToken_21 : decode cX4_wordToken 21 = .ok (.aload_n 0, 1) := by decide +kernel
theorem dX4_wordToken_22 : decode cX4_wordToken 22 = .ok (.getfield 67, 3) := by decide +kernel
theorem dX4_wordToken_25 : decode cX4_wordToken 25 = .ok (.isub, 1) := by decide +kernel
theorem dX4_wordToken_26 : decode cX4_wordToken 26 = .ok (.bipush 9, 2) := by decide +kernel
theorem dX4_wordToken_28 : decode cX4_wordToken 28 = .ok (.if_icmp .ge 29, 3) := by decide +kernel
theorem dX4_wordToken_31 : decode cX4_wordToken 31 = .ok (.ldc2_w 70, 3) := by decide +kernel
theorem dX4_wordToken_34 : decode cX4_wordToken 34 = .ok (.lload_n 1, 1) := by decide +kernel
theorem dX4_wordToken_35 : decode cX4_wordToken 35 = .ok (.lmul, 1) := by decide +kernel
theorem dX4_wordToken_36 : decode cX4_wordToken 36 = .ok (.aload_n 0, 1) := by decide +kernel
theorem dX4_wordToken_37 : decode cX4_wordToken 37 = .ok (.getfield 29, 3) := by decide +kernel
theorem dX4_wordToken_40 : decode cX4_wordToken 40 = .ok (.iload_n 3, 1) := by decide +kernel
theorem dX4_wordToken_41 : decode cX4_wordToken 41 = .ok (.iaload, 1) := by decide +kernel
theorem dX4_wordToken_42 : decode cX4_wordToken 42 = .ok (.i2l, 1) := by decide +kernel
theorem dX4_wordToken_43 : decode cX4_wordToken 43 = .ok (.ladd, 1) := by decide +kernel
theorem dX4_wordToken_44 : decode cX4_wordToken 44 = .ok (.ldc2_w 72, 3) := by decide +kernel
theorem dX4_wordToken_47 : decode cX4_wordToken 47 = .ok (.lsub, 1) := by decide +kernel
theorem dX4_wordToken_48 : decode cX4_wordToken 48 = .ok (.lconst 1, 1) := by decide +kernel
theorem dX4_wordToken_49 : decode cX4_wordToken 49 = .ok (.ladd, 1) := by decide +kernel
theorem dX4_wordToken_50 : decode cX4_wordToken 50 = .ok (.lstore_n 1, 1) := by decide +kernel
theorem dX4_wordToken_51 : decode cX4_wordToken 51 = .ok (.iinc 3 (-1), 3) := by decide +kernel
theorem dX4_wordToken_54 : decode cX4_wordToken 54 = .ok (.goto (-45), 3) := by decide +kernel
theorem dX4_wordToken_57 : decode cX4_wordToken 57 = .ok (.lload_n 1, 1) := by decide +kernel
theorem dX4_wordToken_58 : decode cX4_wordToken 58 = .ok (.ldc2_w 74, 3) := by decide +kernel
theorem dX4_wordToken_61 : decode cX4_wordToken 61 = .ok (.lcmp, 1) := by decide +kernel
theorem dX4_wordToken_62 : decode cX4_wordToken 62 = .ok (.ifCond .ne 9, 3) := by decide +kernel
theorem dX4_wordToken_65 : decode cX4_wordToken 65 = .ok (.sipush 1003, 3) := by decide +kernel
theorem dX4_wordToken_68 : decode cX4_wordToken 68 = .ok (.goto 20, 3) := by decide +kernel
theorem dX4_wordToken_71 : decode cX4_wordToken 71 = .ok (.lload_n 1, 1) := by decide +kernel
theorem dX4_wordToken_72 : decode cX4_wordToken 72 = .ok (.ldc2_w 76, 3) := by decide +kernel
theorem dX4_wordToken_75 : decode cX4_wordToken 75 = .ok (.lcmp, 1) := by decide +kernel
theorem dX4_wordToken_76 : decode cX4_wordToken 76 = .ok (.ifCond .ne 9, 3) := by decide +kernel
theorem dX4_wordToken_79 : decode cX4_wordToken 79 = .ok (.sipush 1004, 3) := by decide +kernel
theorem dX4_wordToken_82 : decode cX4_wordToken 82 = .ok (.goto 6, 3) := by decide +kernel
theorem dX4_wordToken_85 : decode cX4_wordToken 85 = .ok (.sipush 1001, 3) := by decide +kernel
theorem dX4_wordToken_88 : decode cX4_wordToken 88 = .ok (.ireturn, 1) := by decide +kernel
theorem dX4_next_0 : decode cX4_next 0 = .ok (.aload_n 0, 1) := by decide +kernel
theorem dX4_next_1 : decode cX4_next 1 = .ok (.getfield 57, 3) := by decide +kernel
theorem dX4_next_4 : decode cX4_next 4 = .ok (.aload_n 0, 1) := by decide +kernel
theorem dX4_next_5 : decode cX4_next 5 = .ok (.getfield 60, 3) := by decide +kernel
theorem dX4_next_8 : decode cX4_next 8 = .ok (.if_icmp .ge 30, 3) := by decide +kernel
theorem dX4_next_11 : decode cX4_next 11 = .ok (.aload_n 0, 1) := by decide +kernel
theorem dX4_next_12 : decode cX4_next 12 = .ok (.getfield 29, 3) := by decide +kernel
theorem dX4_next_15 : decode cX4_next 15 = .ok (.aload_n 0, 1) := by decide +kernel
theorem dX4_next_16 : decode cX4_next 16 = .ok (.getfield 57, 3) := by decide +kernel
theorem dX4_next_19 : decode cX4_next 19 = .ok (.iaload, 1) := by decide +kernel
theorem dX4_next_20 : decode cX4_next 20 = .ok (.bipush 32, 2) := by decide +kernel
theorem dX4_next_22 : decode cX4_next 22 = .ok (.if_icmp .ne 16, 3) := by decide +kernel
theorem dX4_next_25 : decode cX4_next 25 = .ok (.aload_n 0, 1) := by decide +kernel
theorem dX4_next_26 : decode cX4_next 26 = .ok (.dup, 1) := by decide +kernel
theorem dX4_next_27 : decode cX4_next 27 = .ok (.getfield 57, 3) := by decide +kernel
theorem dX4_next_30 : decode cX4_next 30 = .ok (.iconst 1, 1) := by decide +kernel
theorem dX4_next_31 : decode cX4_next 31 = .ok (.iadd, 1) := by decide +kernel
theorem dX4_next_32 : decode cX4_next 32 = .ok (.putfield 57, 3) := by decide +kernel
theorem dX4_next_35 : decode cX4_next 35 = .ok (.goto (-35), 3) := by decide +kernel
theorem dX4_next_38 : decode cX4_next 38 = .ok (.aload_n 0, 1) := by decide +kernel
theorem dX4_next_39 : decode cX4_next 39 = .ok (.aload_n 0, 1) := by decide +kernel
theorem dX4_next_40 : decode cX4_next 40 = .ok (.getfield 57, 3) := by decide +kernel
theorem dX4_next_43 : decode cX4_next 43 = .ok (.putfield 67, 3) := by decide +kernel
theorem dX4_next_46 : decode cX4_next 46 = .ok (.aload_n 0, 1) := by decide +kernel
theorem dX4_next_47 : decode cX4_next 47 = .ok (.getfield 57, 3) := by decide +kernel
theorem dX4_next_50 : decode cX4_next 50 = .ok (.aload_n 0, 1) := by decide +kernel
theorem dX4_next_51 : decode cX4_next 51 = .ok (.getfield 60, 3) := by decide +kernel
theorem dX4_next_54 : decode cX4_next 54 = .ok (.if_icmp .ne 13, 3) := by decide +kernel
theorem dX4_next_57 : decode cX4_next 57 = .ok (.aload_n 0, 1) := by decide +kernel
theorem dX4_next_58 : decode cX4_next 58 = .ok (.sipush 1000, 3) := by decide +kernel
theorem dX4_next_61 : decode cX4_next 61 = .ok (.putfield 78, 3) := by decide +kernel
theorem dX4_next_64 : decode cX4_next 64 = .ok (.goto 205, 3) := by decide +kernel
theorem dX4_next_67 : decode cX4_next 67 = .ok (.aload_n 0, 1) := by decide +kernel
theorem dX4_next_68 : decode cX4_next 68 = .ok (.invokevirtual 81, 3) := by decide +kernel
theorem dX4_next_71 : decode cX4_next 71 = .ok (.ifCond .eq 34, 3) := by decide +kernel
theorem dX4_next_74 : decode cX4_next 74 = .ok (.aload_n 0, 1) := by decide +kernel
theorem dX4_next_75 : decode cX4_next 75 = .ok (.invokevirtual 81, 3) := by decide +kernel
theorem dX4_next_78 : decode cX4_next 78 = .ok (.ifCond .eq 16, 3) := by decide +kernel
theorem dX4_next_81 : decode cX4_next 81 = .ok (.aload_n 0, 1) := by decide +kernel
theorem dX4_next_82 : decode cX4_next 82 = .ok (.dup, 1) := by decide +kernel
theorem dX4_next_83 : decode cX4_next 83 = .ok (.getfield 57, 3) := by decide +kernel
theorem dX4_next_86 : decode cX4_next 86 = .ok (.iconst 1, 1) := by decide +kernel
theorem dX4_next_87 : decode cX4_next 87 = .ok (.iadd, 1) := by decide +kernel
theorem dX4_next_88 : decode cX4_next 88 = .ok (.putfield 57, 3) := by decide +kernel
theorem dX4_next_91 : decode cX4_next 91 = .ok (.goto (-17), 3) := by decide +kernel
theorem dX4_next_94 : decode cX4_next 94 = .ok (.aload_n 0, 1) := by decide +kernel
theorem dX4_next_95 : decode cX4_next 95 = .ok (.aload_n 0, 1) := by decide +kernel
theorem dX4_next_96 : decode cX4_next 96 = .ok (.invokevirtual 85, 3) := by decide +kernel
theorem dX4_next_99 : decode cX4_next 99 = .ok (.putfield 78, 3) := by decide +kernel
theorem dX4_next_102 : decode cX4_next 102 = .ok (.goto 167, 3) := by decide +kernel
theorem dX4_next_105 : decode cX4_next 105 = .ok (.aload_n 0, 1) := by decide +kernel
theorem dX4_next_106 : decode cX4_next 106 = .ok (.invokevirtual 89, 3) := by decide +kernel
theorem dX4_next_109 : decode cX4_next 109 = .ok (.ifCond .eq 124, 3) := by decide +kernel
theorem dX4_next_112 : decode cX4_next 112 = .ok (.aload_n 0, 1) := by decide +kernel
theorem dX4_next_113 : decode cX4_next 113 = .ok (.iconst 0, 1) := by decide +kernel
theorem dX4_next_114 : decode cX4_next 114 = .ok (.putfield 92, 3) := by decide +kernel
theorem dX4_next_117 : decode cX4_next 117 = .ok (.aload_n 0, 1) := by decide +kernel
theorem dX4_next_118 : decode cX4_next 118 = .ok (.invokevirtual 89, 3) := by decide +kernel
theorem dX4_next_121 : decode cX4_next 121 = .ok (.ifCond .eq 56, 3) := by decide +kernel
theorem dX4_next_124 : decode cX4_next 124 = .ok (.aload_n 0, 1) := by decide +kernel
theorem dX4_next_125 : decode cX4_next 125 = .ok (.aload_n 0, 1) := by decide +kernel
theorem dX4_next_126 : decode cX4_next 126 = .ok (.getfield 92, 3) := by decide +kernel
theorem dX4_next_129 : decode cX4_next 129 = .ok (.bipush 99, 2) := by decide +kernel
theorem dX4_next_131 : decode cX4_next 131 = .ok (.if_icmp .le 10, 3) := by decide +kernel
theorem dX4_next_134 : decode cX4_next 134 = .ok (.aload_n 0, 1) := by decide +kernel
theorem dX4_next_135 : decode cX4_next 135 = .ok (.getfield 92, 3) := by decide +kernel
theorem dX4_next_138 : decode cX4_next 138 = .ok (.goto 23, 3) := by decide +kernel
theorem dX4_next_141 : decode cX4_next 141 = .ok (.bipush 10, 2) := by decide +kernel
theorem dX4_next_143 : decode cX4_next 143 = .ok (.aload_n 0, 1) := by decide +kernel
theorem dX4_next_144 : decode cX4_next 144 = .ok (.getfield 92, 3) := by decide +kernel
theorem dX4_next_147 : decode cX4_next 147 = .ok (.imul, 1) := by decide +kernel
theorem dX4_next_148 : decode cX4_next 148 = .ok (.aload_n 0, 1) := by decide +kernel
theorem dX4_next_149 : decode cX4_next 149 = .ok (.getfield 29, 3) := by decide +kernel
theorem dX4_next_152 : decode cX4_next 152 = .ok (.aload_n 0, 1) := by decide +kernel
theorem dX4_next_153 : decode cX4_next 153 = .ok (.getfield 57, 3) := by decide +kernel
theorem dX4_next_156 : decode cX4_next 156 = .ok (.iaload, 1) := by decide +kernel
theorem dX4_next_157 : decode cX4_next 157 = .ok (.iadd, 1) := by decide +kernel
theorem dX4_next_158 : decode cX4_next 158 = .ok (.bipush 48, 2) := by decide +kernel
theorem dX4_next_160 : decode cX4_next 160 = .ok (.isub, 1) := by decide +kernel
theorem dX4_next_161 : decode cX4_next 161 = .ok (.putfield 92, 3) := by decide +kernel
theorem dX4_next_164 : decode cX4_next 164 = .ok (.aload_n 0, 1) := by decide +kernel
theorem dX4_next_165 : decode cX4_next 165 = .ok (.dup, 1) := by decide +kernel
theorem dX4_next_166 : decode cX4_next 166 = .ok (.getfield 57, 3) := by decide +kernel
theorem dX4_next_169 : decode cX4_next 169 = .ok (.iconst 1, 1) := by decide +kernel
theorem dX4_next_170 : decode cX4_next 170 = .ok (.iadd, 1) := by decide +kernel
theorem dX4_next_171 : decode cX4_next 171 = .ok (.putfield 57, 3) := by decide +kernel
theorem dX4_next_174 : decode cX4_next 174 = .ok (.goto (-57), 3) := by decide +kernel
theorem dX4_next_177 : decode cX4_next 177 = .ok (.aload_n 0, 1) := by decide +kernel
theorem dX4_next_178 : decode cX4_next 178 = .ok (.aload_n 0, 1) := by decide +kernel
theorem dX4_next_179 : decode cX4_next 179 = .ok (.getfield 57, 3) := by decide +kernel
theorem dX4_next_182 : decode cX4_next 182 = .ok (.aload_n 0, 1) := by decide +kernel
theorem dX4_next_183 : decode cX4_next 183 = .ok (.getfield 67, 3) := by decide +kernel
theorem dX4_next_186 : decode cX4_next 186 = .ok (.iconst 2, 1) := by decide +kernel
theorem dX4_next_187 : decode cX4_next 187 = .ok (.iadd, 1) := by decide +kernel
theorem dX4_next_188 : decode cX4_next 188 = .ok (.if_icmp .gt 30, 3) := by decide +kernel
theorem dX4_next_191 : decode cX4_next 191 = .ok (.aload_n 0, 1) := by decide +kernel
theorem dX4_next_192 : decode cX4_next 192 = .ok (.getfield 29, 3) := by decide +kernel
theorem dX4_next_195 : decode cX4_next 195 = .ok (.aload_n 0, 1) := by decide +kernel
theorem dX4_next_196 : decode cX4_next 196 = .ok (.getfield 67, 3) := by decide +kernel
theorem dX4_next_199 : decode cX4_next 199 = .ok (.iaload, 1) := by decide +kernel
theorem dX4_next_200 : decode cX4_next 200 = .ok (.bipush 48, 2) := by decide +kernel
theorem dX4_next_202 : decode cX4_next 202 = .ok (.if_icmp .ne 22, 3) := by decide +kernel
theorem dX4_next_205 : decode cX4_next 205 = .ok (.aload_n 0, 1) := by decide +kernel
theorem dX4_next_206 : decode cX4_next 206 = .ok (.getfield 57, 3) := by decide +kernel
theorem dX4_next_209 : decode cX4_next 209 = .ok (.aload_n 0, 1) := by decide +kernel
theorem dX4_next_210 : decode cX4_next 210 = .ok (.getfield 67, 3) := by decide +kernel
theorem dX4_next_213 : decode cX4_next 213 = .ok (.iconst 1, 1) := by decide +kernel
theorem dX4_next_214 : decode cX4_next 214 = .ok (.iadd, 1) := by decide +kernel
theorem dX4_next_215 : decode cX4_next 215 = .ok (.if_icmp .le 9, 3) := by decide +kernel
theorem dX4_next_218 : decode cX4_next 218 = .ok (.sipush 1001, 3) := by decide +kernel
theorem dX4_next_221 : decode cX4_next 221 = .ok (.goto 6, 3) := by decide +kernel
theorem dX4_next_224 : decode cX4_next 224 = .ok (.sipush 1002, 3) := by decide +kernel
theorem dX4_next_227 : decode cX4_next 227 = .ok (.putfield 78, 3) := by decide +kernel
theorem dX4_next_230 : decode cX4_next 230 = .ok (.goto 39, 3) := by decide +kernel
theorem dX4_next_233 : decode cX4_next 233 = .ok (.aload_n 0, 1) := by decide +kernel
theorem dX4_next_234 : decode cX4_next 234 = .ok (.aload_n 0, 1) := by decide +kernel
theorem dX4_next_235 : decode cX4_next 235 = .ok (.getfield 29, 3) := by decide +kernel
theorem dX4_next_238 : decode cX4_next 238 = .ok (.aload_n 0, 1) := by decide +kernel
theorem dX4_next_239 : decode cX4_next 239 = .ok (.getfield 57, 3) := by decide +kernel
theorem dX4_next_242 : decode cX4_next 242 = .ok (.iaload, 1) := by decide +kernel
theorem dX4_next_243 : decode cX4_next 243 = .ok (.bipush 59, 2) := by decide +kernel
theorem dX4_next_245 : decode cX4_next 245 = .ok (.if_icmp .ne 8, 3) := by decide +kernel
theorem dX4_next_248 : decode cX4_next 248 = .ok (.bipush 59, 2) := by decide +kernel
theorem dX4_next_250 : decode cX4_next 250 = .ok (.goto 6, 3) := by decide +kernel
theorem dX4_next_253 : decode cX4_next 253 = .ok (.sipush 1001, 3) := by decide +kernel
theorem dX4_next_256 : decode cX4_next 256 = .ok (.putfield 78, 3) := by decide +kernel
theorem dX4_next_259 : decode cX4_next 259 = .ok (.aload_n 0, 1) := by decide +kernel
theorem dX4_next_260 : decode cX4_next 260 = .ok (.dup, 1) := by decide +kernel
theorem dX4_next_261 : decode cX4_next 261 = .ok (.getfield 57, 3) := by decide +kernel
theorem dX4_next_264 : decode cX4_next 264 = .ok (.iconst 1, 1) := by decide +kernel
theorem dX4_next_265 : decode cX4_next 265 = .ok (.iadd, 1) := by decide +kernel
theorem dX4_next_266 : decode cX4_next 266 = .ok (.putfield 57, 3) := by decide +kernel
theorem dX4_next_269 : decode cX4_next 269 = .ok (.return_, 1) := by decide +kernel
theorem dX4_readNumber_0 : decode cX4_readNumber 0 = .ok (.aload_n 0, 1) := by decide +kernel
theorem dX4_readNumber_1 : decode cX4_readNumber 1 = .ok (.invokevirtual 95, 3) := by decide +kernel
theorem dX4_readNumber_4 : decode cX4_readNumber 4 = .ok (.aload_n 0, 1) := by decide +kernel
theorem dX4_readNumber_5 : decode cX4_readNumber 5 = .ok (.getfield 78, 3) := by decide +kernel
theorem dX4_readNumber_8 : decode cX4_readNumber 8 = .ok (.sipush 1002, 3) := by decide +kernel
theorem dX4_readNumber_11 : decode cX4_readNumber 11 = .ok (.if_icmp .ne 19, 3) := by decide +kernel
theorem dX4_readNumber_14 : decode cX4_readNumber 14 = .ok (.aload_n 0, 1) := by decide +kernel
theorem dX4_readNumber_15 : decode cX4_readNumber 15 = .ok (.getfield 92, 3) := by decide +kernel
theorem dX4_readNumber_18 : decode cX4_readNumber 18 = .ok (.iload_n 1, 1) := by decide +kernel
theorem dX4_readNumber_19 : decode cX4_readNumber 19 = .ok (.iload_n 2, 1) := by decide +kernel
theorem dX4_readNumber_20 : decode cX4_readNumber 20 = .ok (.invokestatic 63, 3) := by decide +kernel
theorem dX4_readNumber_23 : decode cX4_readNumber 23 = .ok (.ifCond .eq 7, 3) := by decide +kernel
theorem dX4_readNumber_26 : decode cX4_readNumber 26 = .ok (.iconst 1, 1) := by decide +kernel
theorem dX4_readNumber_27 : decode cX4_readNumber 27 = .ok (.goto 4, 3) := by decide +kernel
theorem dX4_readNumber_30 : decode cX4_readNumber 30 = .ok (.iconst 0, 1) := by decide +kernel
theorem dX4_readNumber_31 : decode cX4_readNumber 31 = .ok (.ireturn, 1) := by decide +kernel
theorem dX4_readBounds_0 : decode cX4_readBounds 0 = .ok (.aload_n 0, 1) := by decide +kernel
theorem dX4_readBounds_1 : decode cX4_readBounds 1 = .ok (.iconst 0, 1) := by decide +kernel
theorem dX4_readBounds_2 : decode cX4_readBounds 2 = .ok (.aload_n 0, 1) := by decide +kernel
theorem dX4_readBounds_3 : decode cX4_readBounds 3 = .ok (.getfield 13, 3) := by decide +kernel
theorem dX4_readBounds_6 : decode cX4_readBounds 6 = .ok (.iconst 0, 1) := by decide +kernel
theorem dX4_readBounds_7 : decode cX4_readBounds 7 = .ok (.iaload, 1) := by decide +kernel
theorem dX4_readBounds_8 : decode cX4_readBounds 8 = .ok (.iconst 1, 1) := by decide +kernel
theorem dX4_readBounds_9 : decode cX4_readBounds 9 = .ok (.isub, 1) := by decide +kernel
theorem dX4_readBounds_10 : decode cX4_readBounds 10 = .ok (.invokevirtual 98, 3) := by decide +kernel
theorem dX4_readBounds_13 : decode cX4_readBounds 13 = .ok (.ifCond .ne 5, 3) := by decide +kernel
theorem dX4_readBounds_16 : decode cX4_readBounds 16 = .ok (.iconst 0, 1) := by decide +kernel
theorem dX4_readBounds_17 : decode cX4_readBounds 17 = .ok (.ireturn, 1) := by decide +kernel
theorem dX4_readBounds_18 : decode cX4_readBounds 18 = .ok (.iconst 2, 1) := by decide +kernel
theorem dX4_readBounds_19 : decode cX4_readBounds 19 = .ok (.iconst 3, 1) := by decide +kernel
theorem dX4_readBounds_20 : decode cX4_readBounds 20 = .ok (.aload_n 0, 1) := by decide +kernel
theorem dX4_readBounds_21 : decode cX4_readBounds 21 = .ok (.getfield 92, 3) := by decide +kernel
theorem dX4_readBounds_24 : decode cX4_readBounds 24 = .ok (.imul, 1) := by decide +kernel
theorem dX4_readBounds_25 : decode cX4_readBounds 25 = .ok (.iadd, 1) := by decide +kernel
theorem dX4_readBounds_26 : decode cX4_readBounds 26 = .ok (.istore_n 1, 1) := by decide +kernel
theorem dX4_readBounds_27 : decode cX4_readBounds 27 = .ok (.iconst 0, 1) := by decide +kernel
theorem dX4_readBounds_28 : decode cX4_readBounds 28 = .ok (.istore_n 2, 1) := by decide +kernel
theorem dX4_readBounds_29 : decode cX4_readBounds 29 = .ok (.iload_n 2, 1) := by decide +kernel
theorem dX4_readBounds_30 : decode cX4_readBounds 30 = .ok (.iconst 3, 1) := by decide +kernel
theorem dX4_readBounds_31 : decode cX4_readBounds 31 = .ok (.if_icmp .ge 43, 3) := by decide +kernel
theorem dX4_readBounds_34 : decode cX4_readBounds 34 = .ok (.aload_n 0, 1) := by decide +kernel
theorem dX4_readBounds_35 : decode cX4_readBounds 35 = .ok (.iconst 0, 1) := by decide +kernel
theorem dX4_readBounds_36 : decode cX4_readBounds 36 = .ok (.iload_n 2, 1) := by decide +kernel
theorem dX4_readBounds_37 : decode cX4_readBounds 37 = .ok (.iconst 1, 1) := by decide +kernel
theorem dX4_readBounds_38 : decode cX4_readBounds 38 = .ok (.if_icmp .ne 8, 3) := by decide +kernel
theorem dX4_readBounds_41 : decode cX4_readBounds 41 = .ok (.bipush 9, 2) := by decide +kernel
theorem dX4_readBounds_43 : decode cX4_readBounds 43 = .ok (.goto 5, 3) := by decide +kernel
theorem dX4_readBounds_46 : decode cX4_readBounds 46 = .ok (.bipush 99, 2) := by decide +kernel
theorem dX4_readBounds_48 : decode cX4_readBounds 48 = .ok (.invokevirtual 98, 3) := by decide +kernel
theorem dX4_readBounds_51 : decode cX4_readBounds 51 = .ok (.ifCond .ne 5, 3) := by decide +kernel
theorem dX4_readBounds_54 : decode cX4_readBounds 54 = .ok (.iconst 0, 1) := by decide +kernel
theorem dX4_readBounds_55 : decode cX4_readBounds 55 = .ok (.ireturn, 1) := by decide +kernel
theorem dX4_readBounds_56 : decode cX4_readBounds 56 = .ok (.aload_n 0, 1) := by decide +kernel
theorem dX4_readBounds_57 : decode cX4_readBounds 57 = .ok (.getfield 13, 3) := by decide +kernel
theorem dX4_readBounds_60 : decode cX4_readBounds 60 = .ok (.iload_n 1, 1) := by decide +kernel
theorem dX4_readBounds_61 : decode cX4_readBounds 61 = .ok (.iload_n 2, 1) := by decide +kernel
theorem dX4_readBounds_62 : decode cX4_readBounds 62 = .ok (.iadd, 1) := by decide +kernel
theorem dX4_readBounds_63 : decode cX4_readBounds 63 = .ok (.aload_n 0, 1) := by decide +kernel
theorem dX4_readBounds_64 : decode cX4_readBounds 64 = .ok (.getfield 92, 3) := by decide +kernel
theorem dX4_readBounds_67 : decode cX4_readBounds 67 = .ok (.iastore, 1) := by decide +kernel
theorem dX4_readBounds_68 : decode cX4_readBounds 68 = .ok (.iinc 2 1, 3) := by decide +kernel
theorem dX4_readBounds_71 : decode cX4_readBounds 71 = .ok (.goto (-42), 3) := by decide +kernel
theorem dX4_readBounds_74 : decode cX4_readBounds 74 = .ok (.iconst 1, 1) := by decide +kernel
theorem dX4_readBounds_75 : decode cX4_readBounds 75 = .ok (.ireturn, 1) := by decide +kernel
theorem dX4_readItem_0 : decode cX4_readItem 0 = .ok (.aload_n 0, 1) := by decide +kernel
theorem dX4_readItem_1 : decode cX4_readItem 1 = .ok (.getfield 78, 3) := by decide +kernel
theorem dX4_readItem_4 : decode cX4_readItem 4 = .ok (.sipush 1003, 3) := by decide +kernel
theorem dX4_readItem_7 : decode cX4_readItem 7 = .ok (.if_icmp .ne 39, 3) := by decide +kernel
theorem dX4_readItem_10 : decode cX4_readItem 10 = .ok (.iload_n 1, 1) := by decide +kernel
theorem dX4_readItem_11 : decode cX4_readItem 11 = .ok (.ifCond .eq 35, 3) := by decide +kernel
theorem dX4_readItem_14 : decode cX4_readItem 14 = .ok (.aload_n 0, 1) := by decide +kernel
theorem dX4_readItem_15 : decode cX4_readItem 15 = .ok (.iconst 2, 1) := by decide +kernel
theorem dX4_readItem_16 : decode cX4_readItem 16 = .ok (.iconst 4, 1) := by decide +kernel
theorem dX4_readItem_17 : decode cX4_readItem 17 = .ok (.invokevirtual 98, 3) := by decide +kernel
theorem dX4_readItem_20 : decode cX4_readItem 20 = .ok (.istore_n 2, 1) := by decide +kernel
theorem dX4_readItem_21 : decode cX4_readItem 21 = .ok (.aload_n 0, 1) := by decide +kernel
theorem dX4_readItem_22 : decode cX4_readItem 22 = .ok (.getfield 13, 3) := by decide +kernel
theorem dX4_readItem_25 : decode cX4_readItem 25 = .ok (.iconst 0, 1) := by decide +kernel
theorem dX4_readItem_26 : decode cX4_readItem 26 = .ok (.iload_n 2, 1) := by decide +kernel
theorem dX4_readItem_27 : decode cX4_readItem 27 = .ok (.ifCond .eq 10, 3) := by decide +kernel
theorem dX4_readItem_30 : decode cX4_readItem 30 = .ok (.aload_n 0, 1) := by decide +kernel
theorem dX4_readItem_31 : decode cX4_readItem 31 = .ok (.getfield 92, 3) := by decide +kernel
theorem dX4_readItem_34 : decode cX4_readItem 34 = .ok (.goto 9, 3) := by decide +kernel
theorem dX4_readItem_37 : decode cX4_readItem 37 = .ok (.aload_n 0, 1) := by decide +kernel
theorem dX4_readItem_38 : decode cX4_readItem 38 = .ok (.getfield 13, 3) := by decide +kernel
theorem dX4_readItem_41 : decode cX4_readItem 41 = .ok (.iconst 0, 1) := by decide +kernel
theorem dX4_readItem_42 : decode cX4_readItem 42 = .ok (.iaload, 1) := by decide +kernel
theorem dX4_readItem_43 : decode cX4_readItem 43 = .ok (.iastore, 1) := by decide +kernel
theorem dX4_readItem_44 : decode cX4_readItem 44 = .ok (.iload_n 2, 1) := by decide +kernel
theorem dX4_readItem_45 : decode cX4_readItem 45 = .ok (.ireturn, 1) := by decide +kernel
theorem dX4_readItem_46 : decode cX4_readItem 46 = .ok (.aload_n 0, 1) := by decide +kernel
theorem dX4_readItem_47 : decode cX4_readItem 47 = .ok (.getfield 78, 3) := by decide +kernel
theorem dX4_readItem_50 : decode cX4_readItem 50 = .ok (.sipush 1004, 3) := by decide +kernel
theorem dX4_readItem_53 : decode cX4_readItem 53 = .ok (.if_icmp .ne 14, 3) := by decide +kernel
theorem dX4_readItem_56 : decode cX4_readItem 56 = .ok (.aload_n 0, 1) := by decide +kernel
theorem dX4_readItem_57 : decode cX4_readItem 57 = .ok (.invokevirtual 102, 3) := by decide +kernel
theorem dX4_readItem_60 : decode cX4_readItem 60 = .ok (.ifCond .eq 7, 3) := by decide +kernel
theorem dX4_readItem_63 : decode cX4_readItem 63 = .ok (.iconst 1, 1) := by decide +kernel
theorem dX4_readItem_64 : decode cX4_readItem 64 = .ok (.goto 4, 3) := by decide +kernel
theorem dX4_readItem_67 : decode cX4_readItem 67 = .ok (.iconst 0, 1) := by decide +kernel
theorem dX4_readItem_68 : decode cX4_readItem 68 = .ok (.ireturn, 1) := by decide +kernel
theorem dX4_parse_0 : decode cX4_parse 0 = .ok (.aload_n 0, 1) := by decide +kernel
theorem dX4_parse_1 : decode cX4_parse 1 = .ok (.invokevirtual 38, 3) := by decide +kernel
theorem dX4_parse_4 : decode cX4_parse 4 = .ok (.aload_n 0, 1) := by decide +kernel
theorem dX4_parse_5 : decode cX4_parse 5 = .ok (.iconst 0, 1) := by decide +kernel
theorem dX4_parse_6 : decode cX4_parse 6 = .ok (.putfield 105, 3) := by decide +kernel
theorem dX4_parse_9 : decode cX4_parse 9 = .ok (.aload_n 0, 1) := by decide +kernel
theorem dX4_parse_10 : decode cX4_parse 10 = .ok (.iconst 0, 1) := by decide +kernel
theorem dX4_parse_11 : decode cX4_parse 11 = .ok (.putfield 57, 3) := by decide +kernel
theorem dX4_parse_14 : decode cX4_parse 14 = .ok (.aload_n 0, 1) := by decide +kernel
theorem dX4_parse_15 : decode cX4_parse 15 = .ok (.invokevirtual 95, 3) := by decide +kernel
theorem dX4_parse_18 : decode cX4_parse 18 = .ok (.aload_n 0, 1) := by decide +kernel
theorem dX4_parse_19 : decode cX4_parse 19 = .ok (.getfield 78, 3) := by decide +kernel
theorem dX4_parse_22 : decode cX4_parse 22 = .ok (.sipush 1000, 3) := by decide +kernel
theorem dX4_parse_25 : decode cX4_parse 25 = .ok (.if_icmp .eq 62, 3) := by decide +kernel
theorem dX4_parse_28 : decode cX4_parse 28 = .ok (.aload_n 0, 1) := by decide +kernel
theorem dX4_parse_29 : decode cX4_parse 29 = .ok (.aload_n 0, 1) := by decide +kernel
theorem dX4_parse_30 : decode cX4_parse 30 = .ok (.getfield 105, 3) := by decide +kernel
theorem dX4_parse_33 : decode cX4_parse 33 = .ok (.ifCond .ne 7, 3) := by decide +kernel
theorem dX4_parse_36 : decode cX4_parse 36 = .ok (.iconst 1, 1) := by decide +kernel
theorem dX4_parse_37 : decode cX4_parse 37 = .ok (.goto 4, 3) := by decide +kernel
theorem dX4_parse_40 : decode cX4_parse 40 = .ok (.iconst 0, 1) := by decide +kernel
theorem dX4_parse_41 : decode cX4_parse 41 = .ok (.invokevirtual 108, 3) := by decide +kernel
theorem dX4_parse_44 : decode cX4_parse 44 = .ok (.ifCond .ne 8, 3) := by decide +kernel
theorem dX4_parse_47 : decode cX4_parse 47 = .ok (.aload_n 0, 1) := by decide +kernel
theorem dX4_parse_48 : decode cX4_parse 48 = .ok (.getfield 67, 3) := by decide +kernel
theorem dX4_parse_51 : decode cX4_parse 51 = .ok (.ireturn, 1) := by decide +kernel
theorem dX4_parse_52 : decode cX4_parse 52 = .ok (.aload_n 0, 1) := by decide +kernel
theorem dX4_parse_53 : decode cX4_parse 53 = .ok (.invokevirtual 95, 3) := by decide +kernel
theorem dX4_parse_56 : decode cX4_parse 56 = .ok (.aload_n 0, 1) := by decide +kernel
theorem dX4_parse_57 : decode cX4_parse 57 = .ok (.getfield 78, 3) := by decide +kernel
theorem dX4_parse_60 : decode cX4_parse 60 = .ok (.bipush 59, 2) := by decide +kernel
theorem dX4_parse_62 : decode cX4_parse 62 = .ok (.if_icmp .eq 8, 3) := by decide +kernel
theorem dX4_parse_65 : decode cX4_parse 65 = .ok (.aload_n 0, 1) := by decide +kernel
theorem dX4_parse_66 : decode cX4_parse 66 = .ok (.getfield 67, 3) := by decide +kernel
theorem dX4_parse_69 : decode cX4_parse 69 = .ok (.ireturn, 1) := by decide +kernel
theorem dX4_parse_70 : decode cX4_parse 70 = .ok (.aload_n 0, 1) := by decide +kernel
theorem dX4_parse_71 : decode cX4_parse 71 = .ok (.dup, 1) := by decide +kernel
theorem dX4_parse_72 : decode cX4_parse 72 = .ok (.getfield 105, 3) := by decide +kernel
theorem dX4_parse_75 : decode cX4_parse 75 = .ok (.iconst 1, 1) := by decide +kernel
theorem dX4_parse_76 : decode cX4_parse 76 = .ok (.iadd, 1) := by decide +kernel
theorem dX4_parse_77 : decode cX4_parse 77 = .ok (.putfield 105, 3) := by decide +kernel
theorem dX4_parse_80 : decode cX4_parse 80 = .ok (.aload_n 0, 1) := by decide +kernel
theorem dX4_parse_81 : decode cX4_parse 81 = .ok (.invokevirtual 95, 3) := by decide +kernel
theorem dX4_parse_84 : decode cX4_parse 84 = .ok (.goto (-66), 3) := by decide +kernel
theorem dX4_parse_87 : decode cX4_parse 87 = .ok (.bipush (-9), 2) := by decide +kernel
theorem dX4_parse_89 : decode cX4_parse 89 = .ok (.ireturn, 1) := by decide +kernel
theorem dX4_type_0 : decode cX4_type 0 = .ok (.iload_n 1, 1) := by decide +kernel
theorem dX4_type_1 : decode cX4_type 1 = .ok (.iconst 0, 1) := by decide +kernel
theorem dX4_type_2 : decode cX4_type 2 = .ok (.sipush 255, 3) := by decide +kernel
theorem dX4_type_5 : decode cX4_type 5 = .ok (.invokestatic 63, 3) := by decide +kernel
theorem dX4_type_8 : decode cX4_type 8 = .ok (.ifCond .ne 5, 3) := by decide +kernel
theorem dX4_type_11 : decode cX4_type 11 = .ok (.iconst (-1), 1) := by decide +kernel
theorem dX4_type_12 : decode cX4_type 12 = .ok (.ireturn, 1) := by decide +kernel
theorem dX4_type_13 : decode cX4_type 13 = .ok (.aload_n 0, 1) := by decide +kernel
theorem dX4_type_14 : decode cX4_type 14 = .ok (.getfield 60, 3) := by decide +kernel
theorem dX4_type_17 : decode cX4_type 17 = .ok (.bipush 80, 2) := by decide +kernel
theorem dX4_type_19 : decode cX4_type 19 = .ok (.if_icmp .ne 6, 3) := by decide +kernel
theorem dX4_type_22 : decode cX4_type 22 = .ok (.bipush (-3), 2) := by decide +kernel
theorem dX4_type_24 : decode cX4_type 24 = .ok (.ireturn, 1) := by decide +kernel
theorem dX4_type_25 : decode cX4_type 25 = .ok (.aload_n 0, 1) := by decide +kernel
theorem dX4_type_26 : decode cX4_type 26 = .ok (.getfield 29, 3) := by decide +kernel
theorem dX4_type_29 : decode cX4_type 29 = .ok (.aload_n 0, 1) := by decide +kernel
theorem dX4_type_30 : decode cX4_type 30 = .ok (.getfield 60, 3) := by decide +kernel
theorem dX4_type_33 : decode cX4_type 33 = .ok (.iload_n 1, 1) := by decide +kernel
theorem dX4_type_34 : decode cX4_type 34 = .ok (.iastore, 1) := by decide +kernel
theorem dX4_type_35 : decode cX4_type 35 = .ok (.aload_n 0, 1) := by decide +kernel
theorem dX4_type_36 : decode cX4_type 36 = .ok (.dup, 1) := by decide +kernel
theorem dX4_type_37 : decode cX4_type 37 = .ok (.getfield 60, 3) := by decide +kernel
theorem dX4_type_40 : decode cX4_type 40 = .ok (.iconst 1, 1) := by decide +kernel
theorem dX4_type_41 : decode cX4_type 41 = .ok (.iadd, 1) := by decide +kernel
theorem dX4_type_42 : decode cX4_type 42 = .ok (.putfield 60, 3) := by decide +kernel
theorem dX4_type_45 : decode cX4_type 45 = .ok (.aload_n 0, 1) := by decide +kernel
theorem dX4_type_46 : decode cX4_type 46 = .ok (.getfield 60, 3) := by decide +kernel
theorem dX4_type_49 : decode cX4_type 49 = .ok (.ireturn, 1) := by decide +kernel
theorem dX4_clear_0 : decode cX4_clear 0 = .ok (.aload_n 0, 1) := by decide +kernel
theorem dX4_clear_1 : decode cX4_clear 1 = .ok (.getfield 60, 3) := by decide +kernel
theorem dX4_clear_4 : decode cX4_clear 4 = .ok (.istore_n 1, 1) := by decide +kernel
theorem dX4_clear_5 : decode cX4_clear 5 = .ok (.aload_n 0, 1) := by decide +kernel
theorem dX4_clear_6 : decode cX4_clear 6 = .ok (.iconst 0, 1) := by decide +kernel
theorem dX4_clear_7 : decode cX4_clear 7 = .ok (.putfield 60, 3) := by decide +kernel
theorem dX4_clear_10 : decode cX4_clear 10 = .ok (.iload_n 1, 1) := by decide +kernel
theorem dX4_clear_11 : decode cX4_clear 11 = .ok (.ireturn, 1) := by decide +kernel
theorem dX4_tells_0 : decode cX4_tells 0 = .ok (.aload_n 0, 1) := by decide +kernel
theorem dX4_tells_1 : decode cX4_tells 1 = .ok (.invokevirtual 112, 3) := by decide +kernel
theorem dX4_tells_4 : decode cX4_tells 4 = .ok (.istore_n 1, 1) := by decide +kernel
theorem dX4_tells_5 : decode cX4_tells 5 = .ok (.iload_n 1, 1) := by decide +kernel
theorem dX4_tells_6 : decode cX4_tells 6 = .ok (.bipush (-9), 2) := by decide +kernel
theorem dX4_tells_8 : decode cX4_tells 8 = .ok (.if_icmp .eq 8, 3) := by decide +kernel
theorem dX4_tells_11 : decode cX4_tells 11 = .ok (.bipush (-10), 2) := by decide +kernel
theorem dX4_tells_13 : decode cX4_tells 13 = .ok (.iload_n 1, 1) := by decide +kernel
theorem dX4_tells_14 : decode cX4_tells 14 = .ok (.isub, 1) := by decide +kernel
theorem dX4_tells_15 : decode cX4_tells 15 = .ok (.ireturn, 1) := by decide +kernel
theorem dX4_tells_16 : decode cX4_tells 16 = .ok (.aload_n 0, 1) := by decide +kernel
theorem dX4_tells_17 : decode cX4_tells 17 = .ok (.invokevirtual 115, 3) := by decide +kernel
theorem dX4_tells_20 : decode cX4_tells 20 = .ok (.aload_n 0, 1) := by decide +kernel
theorem dX4_tells_21 : decode cX4_tells 21 = .ok (.getfield 13, 3) := by decide +kernel
theorem dX4_tells_24 : decode cX4_tells 24 = .ok (.invokestatic 41, 3) := by decide +kernel
theorem dX4_tells_27 : decode cX4_tells 27 = .ok (.aload_n 0, 1) := by decide +kernel
theorem dX4_tells_28 : decode cX4_tells 28 = .ok (.getfield 13, 3) := by decide +kernel
theorem dX4_tells_31 : decode cX4_tells 31 = .ok (.iconst 0, 1) := by decide +kernel
theorem dX4_tells_32 : decode cX4_tells 32 = .ok (.aload_n 0, 1) := by decide +kernel
theorem dX4_tells_33 : decode cX4_tells 33 = .ok (.getfield 7, 3) := by decide +kernel
theorem dX4_tells_36 : decode cX4_tells 36 = .ok (.iconst 0, 1) := by decide +kernel
theorem dX4_tells_37 : decode cX4_tells 37 = .ok (.invokestatic 45, 3) := by decide +kernel
theorem dX4_tells_40 : decode cX4_tells 40 = .ok (.aload_n 0, 1) := by decide +kernel
theorem dX4_tells_41 : decode cX4_tells 41 = .ok (.iconst 0, 1) := by decide +kernel
theorem dX4_tells_42 : decode cX4_tells 42 = .ok (.putfield 60, 3) := by decide +kernel
theorem dX4_tells_45 : decode cX4_tells 45 = .ok (.aload_n 0, 1) := by decide +kernel
theorem dX4_tells_46 : decode cX4_tells 46 = .ok (.getfield 105, 3) := by decide +kernel
theorem dX4_tells_49 : decode cX4_tells 49 = .ok (.ireturn, 1) := by decide +kernel
theorem dX4_isCopy_0 : decode cX4_isCopy 0 = .ok (.iload_n 1, 1) := by decide +kernel
theorem dX4_isCopy_1 : decode cX4_isCopy 1 = .ok (.iconst 0, 1) := by decide +kernel
theorem dX4_isCopy_2 : decode cX4_isCopy 2 = .ok (.aload_n 0, 1) := by decide +kernel
theorem dX4_isCopy_3 : decode cX4_isCopy 3 = .ok (.getfield 7, 3) := by decide +kernel
theorem dX4_isCopy_6 : decode cX4_isCopy 6 = .ok (.iconst 0, 1) := by decide +kernel
theorem dX4_isCopy_7 : decode cX4_isCopy 7 = .ok (.iaload, 1) := by decide +kernel
theorem dX4_isCopy_8 : decode cX4_isCopy 8 = .ok (.iconst 1, 1) := by decide +kernel
theorem dX4_isCopy_9 : decode cX4_isCopy 9 = .ok (.isub, 1) := by decide +kernel
theorem dX4_isCopy_10 : decode cX4_isCopy 10 = .ok (.invokestatic 63, 3) := by decide +kernel
theorem dX4_isCopy_13 : decode cX4_isCopy 13 = .ok (.ireturn, 1) := by decide +kernel
theorem dX4_arePair_0 : decode cX4_arePair 0 = .ok (.aload_n 0, 1) := by decide +kernel
theorem dX4_arePair_1 : decode cX4_arePair 1 = .ok (.iload_n 1, 1) := by decide +kernel
theorem dX4_arePair_2 : decode cX4_arePair 2 = .ok (.invokevirtual 118, 3) := by decide +kernel
theorem dX4_arePair_5 : decode cX4_arePair 5 = .ok (.ifCond .eq 20, 3) := by decide +kernel
theorem dX4_arePair_8 : decode cX4_arePair 8 = .ok (.aload_n 0, 1) := by decide +kernel
theorem dX4_arePair_9 : decode cX4_arePair 9 = .ok (.iload_n 2, 1) := by decide +kernel
theorem dX4_arePair_10 : decode cX4_arePair 10 = .ok (.invokevirtual 118, 3) := by decide +kernel
theorem dX4_arePair_13 : decode cX4_arePair 13 = .ok (.ifCond .eq 12, 3) := by decide +kernel
theorem dX4_arePair_16 : decode cX4_arePair 16 = .ok (.iload_n 1, 1) := by decide +kernel
theorem dX4_arePair_17 : decode cX4_arePair 17 = .ok (.iload_n 2, 1) := by decide +kernel
theorem dX4_arePair_18 : decode cX4_arePair 18 = .ok (.if_icmp .eq 7, 3) := by decide +kernel
theorem dX4_arePair_21 : decode cX4_arePair 21 = .ok (.iconst 1, 1) := by decide +kernel
theorem dX4_arePair_22 : decode cX4_arePair 22 = .ok (.goto 4, 3) := by decide +kernel
theorem dX4_arePair_25 : decode cX4_arePair 25 = .ok (.iconst 0, 1) := by decide +kernel
theorem dX4_arePair_26 : decode cX4_arePair 26 = .ok (.ireturn, 1) := by decide +kernel
theorem dX4_weight_0 : decode cX4_weight 0 = .ok (.aload_n 0, 1) := by decide +kernel
theorem dX4_weight_1 : decode cX4_weight 1 = .ok (.getfield 7, 3) := by decide +kernel
theorem dX4_weight_4 : decode cX4_weight 4 = .ok (.bipush 15, 2) := by decide +kernel
theorem dX4_weight_6 : decode cX4_weight 6 = .ok (.iconst 3, 1) := by decide +kernel
theorem dX4_weight_7 : decode cX4_weight 7 = .ok (.iload_n 1, 1) := by decide +kernel
theorem dX4_weight_8 : decode cX4_weight 8 = .ok (.imul, 1) := by decide +kernel
theorem dX4_weight_9 : decode cX4_weight 9 = .ok (.iadd, 1) := by decide +kernel
theorem dX4_weight_10 : decode cX4_weight 10 = .ok (.iconst 1, 1) := by decide +kernel
theorem dX4_weight_11 : decode cX4_weight 11 = .ok (.iadd, 1) := by decide +kernel
theorem dX4_weight_12 : decode cX4_weight 12 = .ok (.iaload, 1) := by decide +kernel
theorem dX4_weight_13 : decode cX4_weight 13 = .ok (.ireturn, 1) := by decide +kernel
theorem dX4_countBits_0 : decode cX4_countBits 0 = .ok (.iconst 0, 1) := by decide +kernel
theorem dX4_countBits_1 : decode cX4_countBits 1 = .ok (.istore_n 1, 1) := by decide +kernel
theorem dX4_countBits_2 : decode cX4_countBits 2 = .ok (.iconst 0, 1) := by decide +kernel
theorem dX4_countBits_3 : decode cX4_countBits 3 = .ok (.istore_n 2, 1) := by decide +kernel
theorem dX4_countBits_4 : decode cX4_countBits 4 = .ok (.iload_n 2, 1) := by decide +kernel
theorem dX4_countBits_5 : decode cX4_countBits 5 = .ok (.bipush 24, 2) := by decide +kernel
theorem dX4_countBits_7 : decode cX4_countBits 7 = .ok (.if_icmp .ge 17, 3) := by decide +kernel
theorem dX4_countBits_10 : decode cX4_countBits 10 = .ok (.iload_n 1, 1) := by decide +kernel
theorem dX4_countBits_11 : decode cX4_countBits 11 = .ok (.iload_n 0, 1) := by decide +kernel
theorem dX4_countBits_12 : decode cX4_countBits 12 = .ok (.iload_n 2, 1) := by decide +kernel
theorem dX4_countBits_13 : decode cX4_countBits 13 = .ok (.ishr, 1) := by decide +kernel
theorem dX4_countBits_14 : decode cX4_countBits 14 = .ok (.iconst 1, 1) := by decide +kernel
theorem dX4_countBits_15 : decode cX4_countBits 15 = .ok (.iand, 1) := by decide +kernel
theorem dX4_countBits_16 : decode cX4_countBits 16 = .ok (.iadd, 1) := by decide +kernel
theorem dX4_countBits_17 : decode cX4_countBits 17 = .ok (.istore_n 1, 1) := by decide +kernel
theorem dX4_countBits_18 : decode cX4_countBits 18 = .ok (.iinc 2 1, 3) := by decide +kernel
theorem dX4_countBits_21 : decode cX4_countBits 21 = .ok (.goto (-17), 3) := by decide +kernel
theorem dX4_countBits_24 : decode cX4_countBits 24 = .ok (.iload_n 1, 1) := by decide +kernel
theorem dX4_countBits_25 : decode cX4_countBits 25 = .ok (.ireturn, 1) := by decide +kernel
theorem dX4_acceptedBy_0 : decode cX4_acceptedBy 0 = .ok (.iconst 0, 1) := by decide +kernel
theorem dX4_acceptedBy_1 : decode cX4_acceptedBy 1 = .ok (.istore_n 2, 1) := by decide +kernel
theorem dX4_acceptedBy_2 : decode cX4_acceptedBy 2 = .ok (.iconst 0, 1) := by decide +kernel
theorem dX4_acceptedBy_3 : decode cX4_acceptedBy 3 = .ok (.istore_n 3, 1) := by decide +kernel
theorem dX4_acceptedBy_4 : decode cX4_acceptedBy 4 = .ok (.iload_n 3, 1) := by decide +kernel
theorem dX4_acceptedBy_5 : decode cX4_acceptedBy 5 = .ok (.aload_n 0, 1) := by decide +kernel
theorem dX4_acceptedBy_6 : decode cX4_acceptedBy 6 = .ok (.getfield 7, 3) := by decide +kernel
theorem dX4_acceptedBy_9 : decode cX4_acceptedBy 9 = .ok (.bipush 14, 2) := by decide +kernel
theorem dX4_acceptedBy_11 : decode cX4_acceptedBy 11 = .ok (.iaload, 1) := by decide +kernel
theorem dX4_acceptedBy_12 : decode cX4_acceptedBy 12 = .ok (.if_icmp .ge 34, 3) := by decide +kernel
theorem dX4_acceptedBy_15 : decode cX4_acceptedBy 15 = .ok (.iload_n 2, 1) := by decide +kernel
theorem dX4_acceptedBy_16 : decode cX4_acceptedBy 16 = .ok (.aload_n 0, 1) := by decide +kernel
theorem dX4_acceptedBy_17 : decode cX4_acceptedBy 17 = .ok (.getfield 7, 3) := by decide +kernel
theorem dX4_acceptedBy_20 : decode cX4_acceptedBy 20 = .ok (.bipush 15, 2) := by decide +kernel
theorem dX4_acceptedBy_22 : decode cX4_acceptedBy 22 = .ok (.iconst 3, 1) := by decide +kernel
theorem dX4_acceptedBy_23 : decode cX4_acceptedBy 23 = .ok (.iload_n 3, 1) := by decide +kernel
theorem dX4_acceptedBy_24 : decode cX4_acceptedBy 24 = .ok (.imul, 1) := by decide +kernel
theorem dX4_acceptedBy_25 : decode cX4_acceptedBy 25 = .ok (.iadd, 1) := by decide +kernel
theorem dX4_acceptedBy_26 : decode cX4_acceptedBy 26 = .ok (.iaload, 1) := by decide +kernel
theorem dX4_acceptedBy_27 : decode cX4_acceptedBy 27 = .ok (.iload_n 1, 1) := by decide +kernel
theorem dX4_acceptedBy_28 : decode cX4_acceptedBy 28 = .ok (.if_icmp .ne 9, 3) := by decide +kernel
theorem dX4_acceptedBy_31 : decode cX4_acceptedBy 31 = .ok (.iconst 1, 1) := by decide +kernel
theorem dX4_acceptedBy_32 : decode cX4_acceptedBy 32 = .ok (.iload_n 3, 1) := by decide +kernel
theorem dX4_acceptedBy_33 : decode cX4_acceptedBy 33 = .ok (.ishl, 1) := by decide +kernel
theorem dX4_acceptedBy_34 : decode cX4_acceptedBy 34 = .ok (.goto 4, 3) := by decide +kernel
theorem dX4_acceptedBy_37 : decode cX4_acceptedBy 37 = .ok (.iconst 0, 1) := by decide +kernel
theorem dX4_acceptedBy_38 : decode cX4_acceptedBy 38 = .ok (.ior, 1) := by decide +kernel
theorem dX4_acceptedBy_39 : decode cX4_acceptedBy 39 = .ok (.istore_n 2, 1) := by decide +kernel
theorem dX4_acceptedBy_40 : decode cX4_acceptedBy 40 = .ok (.iinc 3 1, 3) := by decide +kernel
theorem dX4_acceptedBy_43 : decode cX4_acceptedBy 43 = .ok (.goto (-39), 3) := by decide +kernel
theorem dX4_acceptedBy_46 : decode cX4_acceptedBy 46 = .ok (.iload_n 2, 1) := by decide +kernel
theorem dX4_acceptedBy_47 : decode cX4_acceptedBy 47 = .ok (.ireturn, 1) := by decide +kernel
theorem dX4_sumOf_0 : decode cX4_sumOf 0 = .ok (.iconst 0, 1) := by decide +kernel
theorem dX4_sumOf_1 : decode cX4_sumOf 1 = .ok (.istore_n 2, 1) := by decide +kernel
theorem dX4_sumOf_2 : decode cX4_sumOf 2 = .ok (.iconst 0, 1) := by decide +kernel
theorem dX4_sumOf_3 : decode cX4_sumOf 3 = .ok (.istore_n 3, 1) := by decide +kernel
theorem dX4_sumOf_4 : decode cX4_sumOf 4 = .ok (.iload_n 3, 1) := by decide +kernel
theorem dX4_sumOf_5 : decode cX4_sumOf 5 = .ok (.aload_n 0, 1) := by decide +kernel
theorem dX4_sumOf_6 : decode cX4_sumOf 6 = .ok (.getfield 7, 3) := by decide +kernel
theorem dX4_sumOf_9 : decode cX4_sumOf 9 = .ok (.bipush 14, 2) := by decide +kernel
theorem dX4_sumOf_11 : decode cX4_sumOf 11 = .ok (.iaload, 1) := by decide +kernel
theorem dX4_sumOf_12 : decode cX4_sumOf 12 = .ok (.if_icmp .ge 30, 3) := by decide +kernel
theorem dX4_sumOf_15 : decode cX4_sumOf 15 = .ok (.iload_n 2, 1) := by decide +kernel
theorem dX4_sumOf_16 : decode cX4_sumOf 16 = .ok (.iload_n 1, 1) := by decide +kernel
theorem dX4_sumOf_17 : decode cX4_sumOf 17 = .ok (.iload_n 3, 1) := by decide +kernel
theorem dX4_sumOf_18 : decode cX4_sumOf 18 = .ok (.ishr, 1) := by decide +kernel
theorem dX4_sumOf_19 : decode cX4_sumOf 19 = .ok (.iconst 1, 1) := by decide +kernel
theorem dX4_sumOf_20 : decode cX4_sumOf 20 = .ok (.iand, 1) := by decide +kernel
theorem dX4_sumOf_21 : decode cX4_sumOf 21 = .ok (.iconst 1, 1) := by decide +kernel
theorem dX4_sumOf_22 : decode cX4_sumOf 22 = .ok (.if_icmp .ne 11, 3) := by decide +kernel
theorem dX4_sumOf_25 : decode cX4_sumOf 25 = .ok (.aload_n 0, 1) := by decide +kernel
theorem dX4_sumOf_26 : decode cX4_sumOf 26 = .ok (.iload_n 3, 1) := by decide +kernel
theorem dX4_sumOf_27 : decode cX4_sumOf 27 = .ok (.invokevirtual 122, 3) := by decide +kernel
theorem dX4_sumOf_30 : decode cX4_sumOf 30 = .ok (.goto 4, 3) := by decide +kernel
theorem dX4_sumOf_33 : decode cX4_sumOf 33 = .ok (.iconst 0, 1) := by decide +kernel
theorem dX4_sumOf_34 : decode cX4_sumOf 34 = .ok (.iadd, 1) := by decide +kernel
theorem dX4_sumOf_35 : decode cX4_sumOf 35 = .ok (.istore_n 2, 1) := by decide +kernel
theorem dX4_sumOf_36 : decode cX4_sumOf 36 = .ok (.iinc 3 1, 3) := by decide +kernel
theorem dX4_sumOf_39 : decode cX4_sumOf 39 = .ok (.goto (-35), 3) := by decide +kernel
theorem dX4_sumOf_42 : decode cX4_sumOf 42 = .ok (.iload_n 2, 1) := by decide +kernel
theorem dX4_sumOf_43 : decode cX4_sumOf 43 = .ok (.ireturn, 1) := by decide +kernel
theorem dX4_owed_0 : decode cX4_owed 0 = .ok (.aload_n 0, 1) := by decide +kernel
theorem dX4_owed_1 : decode cX4_owed 1 = .ok (.aload_n 0, 1) := by decide +kernel
theorem dX4_owed_2 : decode cX4_owed 2 = .ok (.iload_n 1, 1) := by decide +kernel
theorem dX4_owed_3 : decode cX4_owed 3 = .ok (.invokevirtual 126, 3) := by decide +kernel
theorem dX4_owed_6 : decode cX4_owed 6 = .ok (.aload_n 0, 1) := by decide +kernel
theorem dX4_owed_7 : decode cX4_owed 7 = .ok (.getfield 7, 3) := by decide +kernel
theorem dX4_owed_10 : decode cX4_owed 10 = .ok (.bipush 87, 2) := by decide +kernel
theorem dX4_owed_12 : decode cX4_owed 12 = .ok (.iload_n 2, 1) := by decide +kernel
theorem dX4_owed_13 : decode cX4_owed 13 = .ok (.iadd, 1) := by decide +kernel
theorem dX4_owed_14 : decode cX4_owed 14 = .ok (.iaload, 1) := by decide +kernel
theorem dX4_owed_15 : decode cX4_owed 15 = .ok (.iconst (-1), 1) := by decide +kernel
theorem dX4_owed_16 : decode cX4_owed 16 = .ok (.ixor, 1) := by decide +kernel
theorem dX4_owed_17 : decode cX4_owed 17 = .ok (.iand, 1) := by decide +kernel
theorem dX4_owed_18 : decode cX4_owed 18 = .ok (.invokevirtual 129, 3) := by decide +kernel
theorem dX4_owed_21 : decode cX4_owed 21 = .ok (.ireturn, 1) := by decide +kernel
theorem dX4_budgetCell_0 : decode cX4_budgetCell 0 = .ok (.bipush 111, 2) := by decide +kernel
theorem dX4_budgetCell_2 : decode cX4_budgetCell 2 = .ok (.iconst 4, 1) := by decide +kernel
theorem dX4_budgetCell_3 : decode cX4_budgetCell 3 = .ok (.iload_n 1, 1) := by decide +kernel
theorem dX4_budgetCell_4 : decode cX4_budgetCell 4 = .ok (.imul, 1) := by decide +kernel
theorem dX4_budgetCell_5 : decode cX4_budgetCell 5 = .ok (.iadd, 1) := by decide +kernel
theorem dX4_budgetCell_6 : decode cX4_budgetCell 6 = .ok (.iload_n 2, 1) := by decide +kernel
theorem dX4_budgetCell_7 : decode cX4_budgetCell 7 = .ok (.iadd, 1) := by decide +kernel
theorem dX4_budgetCell_8 : decode cX4_budgetCell 8 = .ok (.ireturn, 1) := by decide +kernel
theorem dX4_heardCell_0 : decode cX4_heardCell 0 = .ok (.bipush 95, 2) := by decide +kernel
theorem dX4_heardCell_2 : decode cX4_heardCell 2 = .ok (.iconst 4, 1) := by decide +kernel
theorem dX4_heardCell_3 : decode cX4_heardCell 3 = .ok (.iload_n 1, 1) := by decide +kernel
theorem dX4_heardCell_4 : decode cX4_heardCell 4 = .ok (.imul, 1) := by decide +kernel
theorem dX4_heardCell_5 : decode cX4_heardCell 5 = .ok (.iadd, 1) := by decide +kernel
theorem dX4_heardCell_6 : decode cX4_heardCell 6 = .ok (.iload_n 2, 1) := by decide +kernel
theorem dX4_heardCell_7 : decode cX4_heardCell 7 = .ok (.iadd, 1) := by decide +kernel
theorem dX4_heardCell_8 : decode cX4_heardCell 8 = .ok (.ireturn, 1) := by decide +kernel
theorem dX4_left_0 : decode cX4_left 0 = .ok (.aload_n 0, 1) := by decide +kernel
theorem dX4_left_1 : decode cX4_left 1 = .ok (.getfield 7, 3) := by decide +kernel
theorem dX4_left_4 : decode cX4_left 4 = .ok (.aload_n 0, 1) := by decide +kernel
theorem dX4_left_5 : decode cX4_left 5 = .ok (.iload_n 1, 1) := by decide +kernel
theorem dX4_left_6 : decode cX4_left 6 = .ok (.iload_n 2, 1) := by decide +kernel
theorem dX4_left_7 : decode cX4_left 7 = .ok (.invokevirtual 132, 3) := by decide +kernel
theorem dX4_left_10 : decode cX4_left 10 = .ok (.iaload, 1) := by decide +kernel
theorem dX4_left_11 : decode cX4_left 11 = .ok (.aload_n 0, 1) := by decide +kernel
theorem dX4_left_12 : decode cX4_left 12 = .ok (.iload_n 1, 1) := by decide +kernel
theorem dX4_left_13 : decode cX4_left 13 = .ok (.iload_n 2, 1) := by decide +kernel
theorem dX4_left_14 : decode cX4_left 14 = .ok (.invokevirtual 136, 3) := by decide +kernel
theorem dX4_left_17 : decode cX4_left 17 = .ok (.isub, 1) := by decide +kernel
theorem dX4_left_18 : decode cX4_left 18 = .ok (.ireturn, 1) := by decide +kernel
theorem dX4_slowCount_0 : decode cX4_slowCount 0 = .ok (.aload_n 0, 1) := by decide +kernel
theorem dX4_slowCount_1 : decode cX4_slowCount 1 = .ok (.getfield 7, 3) := by decide +kernel
theorem dX4_slowCount_4 : decode cX4_slowCount 4 = .ok (.bipush 87, 2) := by decide +kernel
theorem dX4_slowCount_6 : decode cX4_slowCount 6 = .ok (.iload_n 1, 1) := by decide +kernel
theorem dX4_slowCount_7 : decode cX4_slowCount 7 = .ok (.iadd, 1) := by decide +kernel
theorem dX4_slowCount_8 : decode cX4_slowCount 8 = .ok (.iaload, 1) := by decide +kernel
theorem dX4_slowCount_9 : decode cX4_slowCount 9 = .ok (.aload_n 0, 1) := by decide +kernel
theorem dX4_slowCount_10 : decode cX4_slowCount 10 = .ok (.getfield 7, 3) := by decide +kernel
theorem dX4_slowCount_13 : decode cX4_slowCount 13 = .ok (.bipush 91, 2) := by decide +kernel
theorem dX4_slowCount_15 : decode cX4_slowCount 15 = .ok (.iload_n 1, 1) := by decide +kernel
theorem dX4_slowCount_16 : decode cX4_slowCount 16 = .ok (.iadd, 1) := by decide +kernel
theorem dX4_slowCount_17 : decode cX4_slowCount 17 = .ok (.iaload, 1) := by decide +kernel
theorem dX4_slowCount_18 : decode cX4_slowCount 18 = .ok (.iconst (-1), 1) := by decide +kernel
theorem dX4_slowCount_19 : decode cX4_slowCount 19 = .ok (.ixor, 1) := by decide +kernel
theorem dX4_slowCount_20 : decode cX4_slowCount 20 = .ok (.iand, 1) := by decide +kernel
theorem dX4_slowCount_21 : decode cX4_slowCount 21 = .ok (.invokestatic 139, 3) := by decide +kernel
theorem dX4_slowCount_24 : decode cX4_slowCount 24 = .ok (.ireturn, 1) := by decide +kernel
theorem dX4_keepZeroFast_0 : decode cX4_keepZeroFast 0 = .ok (.aload_n 0, 1) := by decide +kernel
theorem dX4_keepZeroFast_1 : decode cX4_keepZeroFast 1 = .ok (.getfield 7, 3) := by decide +kernel
theorem dX4_keepZeroFast_4 : decode cX4_keepZeroFast 4 = .ok (.bipush 91, 2) := by decide +kernel
theorem dX4_keepZeroFast_6 : decode cX4_keepZeroFast 6 = .ok (.aload_n 0, 1) := by decide +kernel
theorem dX4_keepZeroFast_7 : decode cX4_keepZeroFast 7 = .ok (.getfield 7, 3) := by decide +kernel
theorem dX4_keepZeroFast_10 : decode cX4_keepZeroFast 10 = .ok (.bipush 87, 2) := by decide +kernel
theorem dX4_keepZeroFast_12 : decode cX4_keepZeroFast 12 = .ok (.iaload, 1) := by decide +kernel
theorem dX4_keepZeroFast_13 : decode cX4_keepZeroFast 13 = .ok (.iastore, 1) := by decide +kernel
theorem dX4_keepZeroFast_14 : decode cX4_keepZeroFast 14 = .ok (.return_, 1) := by decide +kernel
theorem dX4_push_0 : decode cX4_push 0 = .ok (.aload_n 0, 1) := by decide +kernel
theorem dX4_push_1 : decode cX4_push 1 = .ok (.getfield 7, 3) := by decide +kernel
theorem dX4_push_4 : decode cX4_push 4 = .ok (.bipush 87, 2) := by decide +kernel
theorem dX4_push_6 : decode cX4_push 6 = .ok (.iload_n 2, 1) := by decide +kernel
theorem dX4_push_7 : decode cX4_push 7 = .ok (.iadd, 1) := by decide +kernel
theorem dX4_push_8 : decode cX4_push 8 = .ok (.dup2, 1) := by decide +kernel
theorem dX4_push_9 : decode cX4_push 9 = .ok (.iaload, 1) := by decide +kernel
theorem dX4_push_10 : decode cX4_push 10 = .ok (.aload_n 0, 1) := by decide +kernel
theorem dX4_push_11 : decode cX4_push 11 = .ok (.iload_n 1, 1) := by decide +kernel
theorem dX4_push_12 : decode cX4_push 12 = .ok (.invokevirtual 126, 3) := by decide +kernel
theorem dX4_push_15 : decode cX4_push 15 = .ok (.ior, 1) := by decide +kernel
theorem dX4_push_16 : decode cX4_push 16 = .ok (.iastore, 1) := by decide +kernel
theorem dX4_push_17 : decode cX4_push 17 = .ok (.aload_n 0, 1) := by decide +kernel
theorem dX4_push_18 : decode cX4_push 18 = .ok (.getfield 7, 3) := by decide +kernel
theorem dX4_push_21 : decode cX4_push 21 = .ok (.aload_n 0, 1) := by decide +kernel
theorem dX4_push_22 : decode cX4_push 22 = .ok (.iload_n 2, 1) := by decide +kernel
theorem dX4_push_23 : decode cX4_push 23 = .ok (.iload_n 1, 1) := by decide +kernel
theorem dX4_push_24 : decode cX4_push 24 = .ok (.invokevirtual 142, 3) := by decide +kernel
theorem dX4_push_27 : decode cX4_push 27 = .ok (.aload_n 0, 1) := by decide +kernel
theorem dX4_push_28 : decode cX4_push 28 = .ok (.getfield 7, 3) := by decide +kernel
theorem dX4_push_31 : decode cX4_push 31 = .ok (.iconst 1, 1) := by decide +kernel
theorem dX4_push_32 : decode cX4_push 32 = .ok (.iaload, 1) := by decide +kernel
theorem dX4_push_33 : decode cX4_push 33 = .ok (.iastore, 1) := by decide +kernel
theorem dX4_push_34 : decode cX4_push 34 = .ok (.aload_n 0, 1) := by decide +kernel
theorem dX4_push_35 : decode cX4_push 35 = .ok (.invokevirtual 145, 3) := by decide +kernel
theorem dX4_push_38 : decode cX4_push 38 = .ok (.return_, 1) := by decide +kernel
theorem dX4_pull_0 : decode cX4_pull 0 = .ok (.aload_n 0, 1) := by decide +kernel
theorem dX4_pull_1 : decode cX4_pull 1 = .ok (.getfield 7, 3) := by decide +kernel
theorem dX4_pull_4 : decode cX4_pull 4 = .ok (.bipush 87, 2) := by decide +kernel
theorem dX4_pull_6 : decode cX4_pull 6 = .ok (.iload_n 1, 1) := by decide +kernel
theorem dX4_pull_7 : decode cX4_pull 7 = .ok (.iadd, 1) := by decide +kernel
theorem dX4_pull_8 : decode cX4_pull 8 = .ok (.dup2, 1) := by decide +kernel
theorem dX4_pull_9 : decode cX4_pull 9 = .ok (.iaload, 1) := by decide +kernel
theorem dX4_pull_10 : decode cX4_pull 10 = .ok (.aload_n 0, 1) := by decide +kernel
theorem dX4_pull_11 : decode cX4_pull 11 = .ok (.getfield 7, 3) := by decide +kernel
theorem dX4_pull_14 : decode cX4_pull 14 = .ok (.bipush 87, 2) := by decide +kernel
theorem dX4_pull_16 : decode cX4_pull 16 = .ok (.iload_n 2, 1) := by decide +kernel
theorem dX4_pull_17 : decode cX4_pull 17 = .ok (.iadd, 1) := by decide +kernel
theorem dX4_pull_18 : decode cX4_pull 18 = .ok (.iaload, 1) := by decide +kernel
theorem dX4_pull_19 : decode cX4_pull 19 = .ok (.ior, 1) := by decide +kernel
theorem dX4_pull_20 : decode cX4_pull 20 = .ok (.iastore, 1) := by decide +kernel
theorem dX4_pull_21 : decode cX4_pull 21 = .ok (.aload_n 0, 1) := by decide +kernel
theorem dX4_pull_22 : decode cX4_pull 22 = .ok (.getfield 7, 3) := by decide +kernel
theorem dX4_pull_25 : decode cX4_pull 25 = .ok (.bipush 91, 2) := by decide +kernel
theorem dX4_pull_27 : decode cX4_pull 27 = .ok (.iload_n 1, 1) := by decide +kernel
theorem dX4_pull_28 : decode cX4_pull 28 = .ok (.iadd, 1) := by decide +kernel
theorem dX4_pull_29 : decode cX4_pull 29 = .ok (.dup2, 1) := by decide +kernel
theorem dX4_pull_30 : decode cX4_pull 30 = .ok (.iaload, 1) := by decide +kernel
theorem dX4_pull_31 : decode cX4_pull 31 = .ok (.aload_n 0, 1) := by decide +kernel
theorem dX4_pull_32 : decode cX4_pull 32 = .ok (.getfield 7, 3) := by decide +kernel
theorem dX4_pull_35 : decode cX4_pull 35 = .ok (.bipush 91, 2) := by decide +kernel
theorem dX4_pull_37 : decode cX4_pull 37 = .ok (.iload_n 2, 1) := by decide +kernel
theorem dX4_pull_38 : decode cX4_pull 38 = .ok (.iadd, 1) := by decide +kernel
theorem dX4_pull_39 : decode cX4_pull 39 = .ok (.iaload, 1) := by decide +kernel
theorem dX4_pull_40 : decode cX4_pull 40 = .ok (.ior, 1) := by decide +kernel
theorem dX4_pull_41 : decode cX4_pull 41 = .ok (.iastore, 1) := by decide +kernel
theorem dX4_pull_42 : decode cX4_pull 42 = .ok (.aload_n 0, 1) := by decide +kernel
theorem dX4_pull_43 : decode cX4_pull 43 = .ok (.getfield 7, 3) := by decide +kernel
theorem dX4_pull_46 : decode cX4_pull 46 = .ok (.aload_n 0, 1) := by decide +kernel
theorem dX4_pull_47 : decode cX4_pull 47 = .ok (.iload_n 1, 1) := by decide +kernel
theorem dX4_pull_48 : decode cX4_pull 48 = .ok (.iload_n 2, 1) := by decide +kernel
theorem dX4_pull_49 : decode cX4_pull 49 = .ok (.invokevirtual 142, 3) := by decide +kernel
theorem dX4_pull_52 : decode cX4_pull 52 = .ok (.aload_n 0, 1) := by decide +kernel
theorem dX4_pull_53 : decode cX4_pull 53 = .ok (.getfield 7, 3) := by decide +kernel
theorem dX4_pull_56 : decode cX4_pull 56 = .ok (.iconst 1, 1) := by decide +kernel
theorem dX4_pull_57 : decode cX4_pull 57 = .ok (.iaload, 1) := by decide +kernel
theorem dX4_pull_58 : decode cX4_pull 58 = .ok (.iastore, 1) := by decide +kernel
theorem dX4_pull_59 : decode cX4_pull 59 = .ok (.iconst 0, 1) := by decide +kernel
theorem dX4_pull_60 : decode cX4_pull 60 = .ok (.istore_n 3, 1) := by decide +kernel
theorem dX4_pull_61 : decode cX4_pull 61 = .ok (.iload_n 3, 1) := by decide +kernel
theorem dX4_pull_62 : decode cX4_pull 62 = .ok (.aload_n 0, 1) := by decide +kernel
theorem dX4_pull_63 : decode cX4_pull 63 = .ok (.getfield 7, 3) := by decide +kernel
theorem dX4_pull_66 : decode cX4_pull 66 = .ok (.iconst 0, 1) := by decide +kernel
theorem dX4_pull_67 : decode cX4_pull 67 = .ok (.iaload, 1) := by decide +kernel
theorem dX4_pull_68 : decode cX4_pull 68 = .ok (.if_icmp .ge 87, 3) := by decide +kernel
theorem dX4_pull_71 : decode cX4_pull 71 = .ok (.aload_n 0, 1) := by decide +kernel
theorem dX4_pull_72 : decode cX4_pull 72 = .ok (.getfield 7, 3) := by decide +kernel
theorem dX4_pull_75 : decode cX4_pull 75 = .ok (.aload_n 0, 1) := by decide +kernel
theorem dX4_pull_76 : decode cX4_pull 76 = .ok (.iload_n 2, 1) := by decide +kernel
theorem dX4_pull_77 : decode cX4_pull 77 = .ok (.iload_n 3, 1) := by decide +kernel
theorem dX4_pull_78 : decode cX4_pull 78 = .ok (.invokevirtual 142, 3) := by decide +kernel
theorem dX4_pull_81 : decode cX4_pull 81 = .ok (.iaload, 1) := by decide +kernel
theorem dX4_pull_82 : decode cX4_pull 82 = .ok (.istore 4, 2) := by decide +kernel
theorem dX4_pull_84 : decode cX4_pull 84 = .ok (.iload_n 3, 1) := by decide +kernel
theorem dX4_pull_85 : decode cX4_pull 85 = .ok (.iload_n 1, 1) := by decide +kernel
theorem dX4_pull_86 : decode cX4_pull 86 = .ok (.if_icmp .eq 28, 3) := by decide +kernel
theorem dX4_pull_89 : decode cX4_pull 89 = .ok (.iload_n 3, 1) := by decide +kernel
theorem dX4_pull_90 : decode cX4_pull 90 = .ok (.iload_n 2, 1) := by decide +kernel
theorem dX4_pull_91 : decode cX4_pull 91 = .ok (.if_icmp .eq 23, 3) := by decide +kernel
theorem dX4_pull_94 : decode cX4_pull 94 = .ok (.iload 4, 2) := by decide +kernel
theorem dX4_pull_96 : decode cX4_pull 96 = .ok (.aload_n 0, 1) := by decide +kernel
theorem dX4_pull_97 : decode cX4_pull 97 = .ok (.getfield 7, 3) := by decide +kernel
theorem dX4_pull_100 : decode cX4_pull 100 = .ok (.aload_n 0, 1) := by decide +kernel
theorem dX4_pull_101 : decode cX4_pull 101 = .ok (.iload_n 1, 1) := by decide +kernel
theorem dX4_pull_102 : decode cX4_pull 102 = .ok (.iload_n 3, 1) := by decide +kernel
theorem dX4_pull_103 : decode cX4_pull 103 = .ok (.invokevirtual 142, 3) := by decide +kernel
theorem dX4_pull_106 : decode cX4_pull 106 = .ok (.iaload, 1) := by decide +kernel
theorem dX4_pull_107 : decode cX4_pull 107 = .ok (.if_icmp .le 7, 3) := by decide +kernel
theorem dX4_pull_110 : decode cX4_pull 110 = .ok (.iconst 1, 1) := by decide +kernel
theorem dX4_pull_111 : decode cX4_pull 111 = .ok (.goto 4, 3) := by decide +kernel
theorem dX4_pull_114 : decode cX4_pull 114 = .ok (.iconst 0, 1) := by decide +kernel
theorem dX4_pull_115 : decode cX4_pull 115 = .ok (.istore 5, 2) := by decide +kernel
theorem dX4_pull_117 : decode cX4_pull 117 = .ok (.aload_n 0, 1) := by decide +kernel
theorem dX4_pull_118 : decode cX4_pull 118 = .ok (.getfield 7, 3) := by decide +kernel
theorem dX4_pull_121 : decode cX4_pull 121 = .ok (.aload_n 0, 1) := by decide +kernel
theorem dX4_pull_122 : decode cX4_pull 122 = .ok (.iload_n 1, 1) := by decide +kernel
theorem dX4_pull_123 : decode cX4_pull 123 = .ok (.iload_n 3, 1) := by decide +kernel
theorem dX4_pull_124 : decode cX4_pull 124 = .ok (.invokevirtual 142, 3) := by decide +kernel
theorem dX4_pull_127 : decode cX4_pull 127 = .ok (.iload 5, 2) := by decide +kernel
theorem dX4_pull_129 : decode cX4_pull 129 = .ok (.ifCond .eq 8, 3) := by decide +kernel
theorem dX4_pull_132 : decode cX4_pull 132 = .ok (.iload 4, 2) := by decide +kernel
theorem dX4_pull_134 : decode cX4_pull 134 = .ok (.goto 14, 3) := by decide +kernel
theorem dX4_pull_137 : decode cX4_pull 137 = .ok (.aload_n 0, 1) := by decide +kernel
theorem dX4_pull_138 : decode cX4_pull 138 = .ok (.getfield 7, 3) := by decide +kernel
theorem dX4_pull_141 : decode cX4_pull 141 = .ok (.aload_n 0, 1) := by decide +kernel
theorem dX4_pull_142 : decode cX4_pull 142 = .ok (.iload_n 1, 1) := by decide +kernel
theorem dX4_pull_143 : decode cX4_pull 143 = .ok (.iload_n 3, 1) := by decide +kernel
theorem dX4_pull_144 : decode cX4_pull 144 = .ok (.invokevirtual 142, 3) := by decide +kernel
theorem dX4_pull_147 : decode cX4_pull 147 = .ok (.iaload, 1) := by decide +kernel
theorem dX4_pull_148 : decode cX4_pull 148 = .ok (.iastore, 1) := by decide +kernel
theorem dX4_pull_149 : decode cX4_pull 149 = .ok (.iinc 3 1, 3) := by decide +kernel
theorem dX4_pull_152 : decode cX4_pull 152 = .ok (.goto (-91), 3) := by decide +kernel
theorem dX4_pull_155 : decode cX4_pull 155 = .ok (.aload_n 0, 1) := by decide +kernel
theorem dX4_pull_156 : decode cX4_pull 156 = .ok (.invokevirtual 145, 3) := by decide +kernel
theorem dX4_pull_159 : decode cX4_pull 159 = .ok (.return_, 1) := by decide +kernel
theorem dX4_readBy_0 : decode cX4_readBy 0 = .ok (.iconst 0, 1) := by decide +kernel
theorem dX4_readBy_1 : decode cX4_readBy 1 = .ok (.istore_n 2, 1) := by decide +kernel
theorem dX4_readBy_2 : decode cX4_readBy 2 = .ok (.iconst 0, 1) := by decide +kernel
theorem dX4_readBy_3 : decode cX4_readBy 3 = .ok (.istore_n 3, 1) := by decide +kernel
theorem dX4_readBy_4 : decode cX4_readBy 4 = .ok (.iload_n 3, 1) := by decide +kernel
theorem dX4_readBy_5 : decode cX4_readBy 5 = .ok (.aload_n 0, 1) := by decide +kernel
theorem dX4_readBy_6 : decode cX4_readBy 6 = .ok (.getfield 7, 3) := by decide +kernel
theorem dX4_readBy_9 : decode cX4_readBy 9 = .ok (.iconst 0, 1) := by decide +kernel
theorem dX4_readBy_10 : decode cX4_readBy 10 = .ok (.iaload, 1) := by decide +kernel
theorem dX4_readBy_11 : decode cX4_readBy 11 = .ok (.if_icmp .ge 56, 3) := by decide +kernel
theorem dX4_readBy_14 : decode cX4_readBy 14 = .ok (.iload_n 3, 1) := by decide +kernel
theorem dX4_readBy_15 : decode cX4_readBy 15 = .ok (.iload_n 1, 1) := by decide +kernel
theorem dX4_readBy_16 : decode cX4_readBy 16 = .ok (.if_icmp .eq 45, 3) := by decide +kernel
theorem dX4_readBy_19 : decode cX4_readBy 19 = .ok (.aload_n 0, 1) := by decide +kernel
theorem dX4_readBy_20 : decode cX4_readBy 20 = .ok (.getfield 7, 3) := by decide +kernel
theorem dX4_readBy_23 : decode cX4_readBy 23 = .ok (.iconst 1, 1) := by decide +kernel
theorem dX4_readBy_24 : decode cX4_readBy 24 = .ok (.iaload, 1) := by decide +kernel
theorem dX4_readBy_25 : decode cX4_readBy 25 = .ok (.aload_n 0, 1) := by decide +kernel
theorem dX4_readBy_26 : decode cX4_readBy 26 = .ok (.getfield 7, 3) := by decide +kernel
theorem dX4_readBy_29 : decode cX4_readBy 29 = .ok (.aload_n 0, 1) := by decide +kernel
theorem dX4_readBy_30 : decode cX4_readBy 30 = .ok (.iload_n 1, 1) := by decide +kernel
theorem dX4_readBy_31 : decode cX4_readBy 31 = .ok (.iload_n 3, 1) := by decide +kernel
theorem dX4_readBy_32 : decode cX4_readBy 32 = .ok (.invokevirtual 142, 3) := by decide +kernel
theorem dX4_readBy_35 : decode cX4_readBy 35 = .ok (.iaload, 1) := by decide +kernel
theorem dX4_readBy_36 : decode cX4_readBy 36 = .ok (.isub, 1) := by decide +kernel
theorem dX4_readBy_37 : decode cX4_readBy 37 = .ok (.aload_n 0, 1) := by decide +kernel
theorem dX4_readBy_38 : decode cX4_readBy 38 = .ok (.getfield 7, 3) := by decide +kernel
theorem dX4_readBy_41 : decode cX4_readBy 41 = .ok (.iconst 2, 1) := by decide +kernel
theorem dX4_readBy_42 : decode cX4_readBy 42 = .ok (.iconst 3, 1) := by decide +kernel
theorem dX4_readBy_43 : decode cX4_readBy 43 = .ok (.iload_n 1, 1) := by decide +kernel
theorem dX4_readBy_44 : decode cX4_readBy 44 = .ok (.imul, 1) := by decide +kernel
theorem dX4_readBy_45 : decode cX4_readBy 45 = .ok (.iadd, 1) := by decide +kernel
theorem dX4_readBy_46 : decode cX4_readBy 46 = .ok (.iconst 2, 1) := by decide +kernel
theorem dX4_readBy_47 : decode cX4_readBy 47 = .ok (.iadd, 1) := by decide +kernel
theorem dX4_readBy_48 : decode cX4_readBy 48 = .ok (.iaload, 1) := by decide +kernel
theorem dX4_readBy_49 : decode cX4_readBy 49 = .ok (.if_icmp .le 12, 3) := by decide +kernel
theorem dX4_readBy_52 : decode cX4_readBy 52 = .ok (.aload_n 0, 1) := by decide +kernel
theorem dX4_readBy_53 : decode cX4_readBy 53 = .ok (.iload_n 1, 1) := by decide +kernel
theorem dX4_readBy_54 : decode cX4_readBy 54 = .ok (.iload_n 3, 1) := by decide +kernel
theorem dX4_readBy_55 : decode cX4_readBy 55 = .ok (.invokevirtual 148, 3) := by decide +kernel
theorem dX4_readBy_58 : decode cX4_readBy 58 = .ok (.iinc 2 1, 3) := by decide +kernel
theorem dX4_readBy_61 : decode cX4_readBy 61 = .ok (.iinc 3 1, 3) := by decide +kernel
theorem dX4_readBy_64 : decode cX4_readBy 64 = .ok (.goto (-60), 3) := by decide +kernel
theorem dX4_readBy_67 : decode cX4_readBy 67 = .ok (.aload_n 0, 1) := by decide +kernel
theorem dX4_readBy_68 : decode cX4_readBy 68 = .ok (.iload_n 1, 1) := by decide +kernel
theorem dX4_readBy_69 : decode cX4_readBy 69 = .ok (.invokevirtual 152, 3) := by decide +kernel
theorem dX4_readBy_72 : decode cX4_readBy 72 = .ok (.aload_n 0, 1) := by decide +kernel
theorem dX4_readBy_73 : decode cX4_readBy 73 = .ok (.getfield 7, 3) := by decide +kernel
theorem dX4_readBy_76 : decode cX4_readBy 76 = .ok (.iconst 2, 1) := by decide +kernel
theorem dX4_readBy_77 : decode cX4_readBy 77 = .ok (.iconst 3, 1) := by decide +kernel
theorem dX4_readBy_78 : decode cX4_readBy 78 = .ok (.iload_n 1, 1) := by decide +kernel
theorem dX4_readBy_79 : decode cX4_readBy 79 = .ok (.imul, 1) := by decide +kernel
theorem dX4_readBy_80 : decode cX4_readBy 80 = .ok (.iadd, 1) := by decide +kernel
theorem dX4_readBy_81 : decode cX4_readBy 81 = .ok (.iconst 1, 1) := by decide +kernel
theorem dX4_readBy_82 : decode cX4_readBy 82 = .ok (.iadd, 1) := by decide +kernel
theorem dX4_readBy_83 : decode cX4_readBy 83 = .ok (.iaload, 1) := by decide +kernel
theorem dX4_readBy_84 : decode cX4_readBy 84 = .ok (.if_icmp .le 18, 3) := by decide +kernel
theorem dX4_readBy_87 : decode cX4_readBy 87 = .ok (.aload_n 0, 1) := by decide +kernel
theorem dX4_readBy_88 : decode cX4_readBy 88 = .ok (.iconst 0, 1) := by decide +kernel
theorem dX4_readBy_89 : decode cX4_readBy 89 = .ok (.iload_n 1, 1) := by decide +kernel
theorem dX4_readBy_90 : decode cX4_readBy 90 = .ok (.invokevirtual 148, 3) := by decide +kernel
theorem dX4_readBy_93 : decode cX4_readBy 93 = .ok (.aload_n 0, 1) := by decide +kernel
theorem dX4_readBy_94 : decode cX4_readBy 94 = .ok (.iload_n 1, 1) := by decide +kernel
theorem dX4_readBy_95 : decode cX4_readBy 95 = .ok (.iconst 0, 1) := by decide +kernel
theorem dX4_readBy_96 : decode cX4_readBy 96 = .ok (.invokevirtual 148, 3) := by decide +kernel
theorem dX4_readBy_99 : decode cX4_readBy 99 = .ok (.iinc 2 2, 3) := by decide +kernel
theorem dX4_readBy_102 : decode cX4_readBy 102 = .ok (.iload_n 2, 1) := by decide +kernel
theorem dX4_readBy_103 : decode cX4_readBy 103 = .ok (.ireturn, 1) := by decide +kernel
theorem dX4_readCost_0 : decode cX4_readCost 0 = .ok (.aload_n 0, 1) := by decide +kernel
theorem dX4_readCost_1 : decode cX4_readCost 1 = .ok (.getfield 7, 3) := by decide +kernel
theorem dX4_readCost_4 : decode cX4_readCost 4 = .ok (.iconst 0, 1) := by decide +kernel
theorem dX4_readCost_5 : decode cX4_readCost 5 = .ok (.aload_n 0, 1) := by decide +kernel
theorem dX4_readCost_6 : decode cX4_readCost 6 = .ok (.getfield 16, 3) := by decide +kernel
theorem dX4_readCost_9 : decode cX4_readCost 9 = .ok (.iconst 0, 1) := by decide +kernel
theorem dX4_readCost_10 : decode cX4_readCost 10 = .ok (.invokestatic 45, 3) := by decide +kernel
theorem dX4_readCost_13 : decode cX4_readCost 13 = .ok (.aload_n 0, 1) := by decide +kernel
theorem dX4_readCost_14 : decode cX4_readCost 14 = .ok (.iload_n 1, 1) := by decide +kernel
theorem dX4_readCost_15 : decode cX4_readCost 15 = .ok (.invokevirtual 155, 3) := by decide +kernel
theorem dX4_readCost_18 : decode cX4_readCost 18 = .ok (.istore_n 2, 1) := by decide +kernel
theorem dX4_readCost_19 : decode cX4_readCost 19 = .ok (.aload_n 0, 1) := by decide +kernel
theorem dX4_readCost_20 : decode cX4_readCost 20 = .ok (.getfield 16, 3) := by decide +kernel
theorem dX4_readCost_23 : decode cX4_readCost 23 = .ok (.iconst 0, 1) := by decide +kernel
theorem dX4_readCost_24 : decode cX4_readCost 24 = .ok (.aload_n 0, 1) := by decide +kernel
theorem dX4_readCost_25 : decode cX4_readCost 25 = .ok (.getfield 7, 3) := by decide +kernel
theorem dX4_readCost_28 : decode cX4_readCost 28 = .ok (.iconst 0, 1) := by decide +kernel
theorem dX4_readCost_29 : decode cX4_readCost 29 = .ok (.invokestatic 45, 3) := by decide +kernel
theorem dX4_readCost_32 : decode cX4_readCost 32 = .ok (.iload_n 2, 1) := by decide +kernel
theorem dX4_readCost_33 : decode cX4_readCost 33 = .ok (.ireturn, 1) := by decide +kernel
theorem dX4_accepts_0 : decode cX4_accepts 0 = .ok (.aload_n 0, 1) := by decide +kernel
theorem dX4_accepts_1 : decode cX4_accepts 1 = .ok (.iload_n 1, 1) := by decide +kernel
theorem dX4_accepts_2 : decode cX4_accepts 2 = .ok (.invokevirtual 118, 3) := by decide +kernel
theorem dX4_accepts_5 : decode cX4_accepts 5 = .ok (.ifCond .eq 13, 3) := by decide +kernel
theorem dX4_accepts_8 : decode cX4_accepts 8 = .ok (.iload_n 2, 1) := by decide +kernel
theorem dX4_accepts_9 : decode cX4_accepts 9 = .ok (.iconst 1, 1) := by decide +kernel
theorem dX4_accepts_10 : decode cX4_accepts 10 = .ok (.bipush 9, 2) := by decide +kernel
theorem dX4_accepts_12 : decode cX4_accepts 12 = .ok (.invokestatic 63, 3) := by decide +kernel
theorem dX4_accepts_15 : decode cX4_accepts 15 = .ok (.ifCond .ne 5, 3) := by decide +kernel
theorem dX4_accepts_18 : decode cX4_accepts 18 = .ok (.iconst (-1), 1) := by decide +kernel
theorem dX4_accepts_19 : decode cX4_accepts 19 = .ok (.ireturn, 1) := by decide +kernel
theorem dX4_accepts_20 : decode cX4_accepts 20 = .ok (.aload_n 0, 1) := by decide +kernel
theorem dX4_accepts_21 : decode cX4_accepts 21 = .ok (.getfield 7, 3) := by decide +kernel
theorem dX4_accepts_24 : decode cX4_accepts 24 = .ok (.bipush 14, 2) := by decide +kernel
theorem dX4_accepts_26 : decode cX4_accepts 26 = .ok (.iaload, 1) := by decide +kernel
theorem dX4_accepts_27 : decode cX4_accepts 27 = .ok (.bipush 24, 2) := by decide +kernel
theorem dX4_accepts_29 : decode cX4_accepts 29 = .ok (.if_icmp .ne 6, 3) := by decide +kernel
theorem dX4_accepts_32 : decode cX4_accepts 32 = .ok (.bipush (-3), 2) := by decide +kernel
theorem dX4_accepts_34 : decode cX4_accepts 34 = .ok (.ireturn, 1) := by decide +kernel
theorem dX4_accepts_35 : decode cX4_accepts 35 = .ok (.aload_n 0, 1) := by decide +kernel
theorem dX4_accepts_36 : decode cX4_accepts 36 = .ok (.invokevirtual 115, 3) := by decide +kernel
theorem dX4_accepts_39 : decode cX4_accepts 39 = .ok (.aload_n 0, 1) := by decide +kernel
theorem dX4_accepts_40 : decode cX4_accepts 40 = .ok (.getfield 7, 3) := by decide +kernel
theorem dX4_accepts_43 : decode cX4_accepts 43 = .ok (.bipush 14, 2) := by decide +kernel
theorem dX4_accepts_45 : decode cX4_accepts 45 = .ok (.iaload, 1) := by decide +kernel
theorem dX4_accepts_46 : decode cX4_accepts 46 = .ok (.istore_n 3, 1) := by decide +kernel
theorem dX4_accepts_47 : decode cX4_accepts 47 = .ok (.aload_n 0, 1) := by decide +kernel
theorem dX4_accepts_48 : decode cX4_accepts 48 = .ok (.getfield 7, 3) := by decide +kernel
theorem dX4_accepts_51 : decode cX4_accepts 51 = .ok (.bipush 15, 2) := by decide +kernel
theorem dX4_accepts_53 : decode cX4_accepts 53 = .ok (.iconst 3, 1) := by decide +kernel
theorem dX4_accepts_54 : decode cX4_accepts 54 = .ok (.iload_n 3, 1) := by decide +kernel
theorem dX4_accepts_55 : decode cX4_accepts 55 = .ok (.imul, 1) := by decide +kernel
theorem dX4_accepts_56 : decode cX4_accepts 56 = .ok (.iadd, 1) := by decide +kernel
theorem dX4_accepts_57 : decode cX4_accepts 57 = .ok (.iload_n 1, 1) := by decide +kernel
theorem dX4_accepts_58 : decode cX4_accepts 58 = .ok (.iastore, 1) := by decide +kernel
theorem dX4_accepts_59 : decode cX4_accepts 59 = .ok (.aload_n 0, 1) := by decide +kernel
theorem dX4_accepts_60 : decode cX4_accepts 60 = .ok (.getfield 7, 3) := by decide +kernel
theorem dX4_accepts_63 : decode cX4_accepts 63 = .ok (.bipush 15, 2) := by decide +kernel
theorem dX4_accepts_65 : decode cX4_accepts 65 = .ok (.iconst 3, 1) := by decide +kernel
theorem dX4_accepts_66 : decode cX4_accepts 66 = .ok (.iload_n 3, 1) := by decide +kernel
theorem dX4_accepts_67 : decode cX4_accepts 67 = .ok (.imul, 1) := by decide +kernel
theorem dX4_accepts_68 : decode cX4_accepts 68 = .ok (.iadd, 1) := by decide +kernel
theorem dX4_accepts_69 : decode cX4_accepts 69 = .ok (.iconst 1, 1) := by decide +kernel
theorem dX4_accepts_70 : decode cX4_accepts 70 = .ok (.iadd, 1) := by decide +kernel
theorem dX4_accepts_71 : decode cX4_accepts 71 = .ok (.iload_n 2, 1) := by decide +kernel
theorem dX4_accepts_72 : decode cX4_accepts 72 = .ok (.iastore, 1) := by decide +kernel
theorem dX4_accepts_73 : decode cX4_accepts 73 = .ok (.aload_n 0, 1) := by decide +kernel
theorem dX4_accepts_74 : decode cX4_accepts 74 = .ok (.getfield 7, 3) := by decide +kernel
theorem dX4_accepts_77 : decode cX4_accepts 77 = .ok (.bipush 15, 2) := by decide +kernel
theorem dX4_accepts_79 : decode cX4_accepts 79 = .ok (.iconst 3, 1) := by decide +kernel
theorem dX4_accepts_80 : decode cX4_accepts 80 = .ok (.iload_n 3, 1) := by decide +kernel
theorem dX4_accepts_81 : decode cX4_accepts 81 = .ok (.imul, 1) := by decide +kernel
theorem dX4_accepts_82 : decode cX4_accepts 82 = .ok (.iadd, 1) := by decide +kernel
theorem dX4_accepts_83 : decode cX4_accepts 83 = .ok (.iconst 2, 1) := by decide +kernel
theorem dX4_accepts_84 : decode cX4_accepts 84 = .ok (.iadd, 1) := by decide +kernel
theorem dX4_accepts_85 : decode cX4_accepts 85 = .ok (.aload_n 0, 1) := by decide +kernel
theorem dX4_accepts_86 : decode cX4_accepts 86 = .ok (.getfield 7, 3) := by decide +kernel
theorem dX4_accepts_89 : decode cX4_accepts 89 = .ok (.iconst 1, 1) := by decide +kernel
theorem dX4_accepts_90 : decode cX4_accepts 90 = .ok (.iaload, 1) := by decide +kernel
theorem dX4_accepts_91 : decode cX4_accepts 91 = .ok (.iastore, 1) := by decide +kernel
theorem dX4_accepts_92 : decode cX4_accepts 92 = .ok (.aload_n 0, 1) := by decide +kernel
theorem dX4_accepts_93 : decode cX4_accepts 93 = .ok (.getfield 7, 3) := by decide +kernel
theorem dX4_accepts_96 : decode cX4_accepts 96 = .ok (.bipush 14, 2) := by decide +kernel
theorem dX4_accepts_98 : decode cX4_accepts 98 = .ok (.dup2, 1) := by decide +kernel
theorem dX4_accepts_99 : decode cX4_accepts 99 = .ok (.iaload, 1) := by decide +kernel
theorem dX4_accepts_100 : decode cX4_accepts 100 = .ok (.iconst 1, 1) := by decide +kernel
theorem dX4_accepts_101 : decode cX4_accepts 101 = .ok (.iadd, 1) := by decide +kernel
theorem dX4_accepts_102 : decode cX4_accepts 102 = .ok (.iastore, 1) := by decide +kernel
theorem dX4_accepts_103 : decode cX4_accepts 103 = .ok (.aload_n 0, 1) := by decide +kernel
theorem dX4_accepts_104 : decode cX4_accepts 104 = .ok (.getfield 7, 3) := by decide +kernel
theorem dX4_accepts_107 : decode cX4_accepts 107 = .ok (.bipush 87, 2) := by decide +kernel
theorem dX4_accepts_109 : decode cX4_accepts 109 = .ok (.iload_n 1, 1) := by decide +kernel
theorem dX4_accepts_110 : decode cX4_accepts 110 = .ok (.iadd, 1) := by decide +kernel
theorem dX4_accepts_111 : decode cX4_accepts 111 = .ok (.dup2, 1) := by decide +kernel
theorem dX4_accepts_112 : decode cX4_accepts 112 = .ok (.iaload, 1) := by decide +kernel
theorem dX4_accepts_113 : decode cX4_accepts 113 = .ok (.iconst 1, 1) := by decide +kernel
theorem dX4_accepts_114 : decode cX4_accepts 114 = .ok (.iload_n 3, 1) := by decide +kernel
theorem dX4_accepts_115 : decode cX4_accepts 115 = .ok (.ishl, 1) := by decide +kernel
theorem dX4_accepts_116 : decode cX4_accepts 116 = .ok (.ior, 1) := by decide +kernel
theorem dX4_accepts_117 : decode cX4_accepts 117 = .ok (.iastore, 1) := by decide +kernel
theorem dX4_accepts_118 : decode cX4_accepts 118 = .ok (.aload_n 0, 1) := by decide +kernel
theorem dX4_accepts_119 : decode cX4_accepts 119 = .ok (.invokevirtual 145, 3) := by decide +kernel
theorem dX4_accepts_122 : decode cX4_accepts 122 = .ok (.iconst 0, 1) := by decide +kernel
theorem dX4_accepts_123 : decode cX4_accepts 123 = .ok (.istore 4, 2) := by decide +kernel
theorem dX4_accepts_125 : decode cX4_accepts 125 = .ok (.iconst 0, 1) := by decide +kernel
theorem dX4_accepts_126 : decode cX4_accepts 126 = .ok (.istore 5, 2) := by decide +kernel
theorem dX4_accepts_128 : decode cX4_accepts 128 = .ok (.iload 5, 2) := by decide +kernel
theorem dX4_accepts_130 : decode cX4_accepts 130 = .ok (.aload_n 0, 1) := by decide +kernel
theorem dX4_accepts_131 : decode cX4_accepts 131 = .ok (.getfield 7, 3) := by decide +kernel
theorem dX4_accepts_134 : decode cX4_accepts 134 = .ok (.iconst 0, 1) := by decide +kernel
theorem dX4_accepts_135 : decode cX4_accepts 135 = .ok (.iaload, 1) := by decide +kernel
theorem dX4_accepts_136 : decode cX4_accepts 136 = .ok (.if_icmp .ge 35, 3) := by decide +kernel
theorem dX4_accepts_139 : decode cX4_accepts 139 = .ok (.iload 5, 2) := by decide +kernel
theorem dX4_accepts_141 : decode cX4_accepts 141 = .ok (.iload_n 1, 1) := by decide +kernel
theorem dX4_accepts_142 : decode cX4_accepts 142 = .ok (.if_icmp .eq 23, 3) := by decide +kernel
theorem dX4_accepts_145 : decode cX4_accepts 145 = .ok (.aload_n 0, 1) := by decide +kernel
theorem dX4_accepts_146 : decode cX4_accepts 146 = .ok (.iload_n 1, 1) := by decide +kernel
theorem dX4_accepts_147 : decode cX4_accepts 147 = .ok (.iload 5, 2) := by decide +kernel
theorem dX4_accepts_149 : decode cX4_accepts 149 = .ok (.invokevirtual 158, 3) := by decide +kernel
theorem dX4_accepts_152 : decode cX4_accepts 152 = .ok (.ifCond .ge 13, 3) := by decide +kernel
theorem dX4_accepts_155 : decode cX4_accepts 155 = .ok (.aload_n 0, 1) := by decide +kernel
theorem dX4_accepts_156 : decode cX4_accepts 156 = .ok (.iload_n 1, 1) := by decide +kernel
theorem dX4_accepts_157 : decode cX4_accepts 157 = .ok (.iload 5, 2) := by decide +kernel
theorem dX4_accepts_159 : decode cX4_accepts 159 = .ok (.invokevirtual 161, 3) := by decide +kernel
theorem dX4_accepts_162 : decode cX4_accepts 162 = .ok (.iinc 4 1, 3) := by decide +kernel
theorem dX4_accepts_165 : decode cX4_accepts 165 = .ok (.iinc 5 1, 3) := by decide +kernel
theorem dX4_accepts_168 : decode cX4_accepts 168 = .ok (.goto (-40), 3) := by decide +kernel
theorem dX4_accepts_171 : decode cX4_accepts 171 = .ok (.iload 4, 2) := by decide +kernel
theorem dX4_accepts_173 : decode cX4_accepts 173 = .ok (.ireturn, 1) := by decide +kernel
theorem dX4_passes_0 : decode cX4_passes 0 = .ok (.iload_n 1, 1) := by decide +kernel
theorem dX4_passes_1 : decode cX4_passes 1 = .ok (.iconst 1, 1) := by decide +kernel
theorem dX4_passes_2 : decode cX4_passes 2 = .ok (.bipush 99, 2) := by decide +kernel
theorem dX4_passes_4 : decode cX4_passes 4 = .ok (.invokestatic 63, 3) := by decide +kernel
theorem dX4_passes_7 : decode cX4_passes 7 = .ok (.ifCond .ne 5, 3) := by decide +kernel
theorem dX4_passes_10 : decode cX4_passes 10 = .ok (.iconst (-1), 1) := by decide +kernel
theorem dX4_passes_11 : decode cX4_passes 11 = .ok (.ireturn, 1) := by decide +kernel
theorem dX4_passes_12 : decode cX4_passes 12 = .ok (.aload_n 0, 1) := by decide +kernel
theorem dX4_passes_13 : decode cX4_passes 13 = .ok (.getfield 7, 3) := by decide +kernel
theorem dX4_passes_16 : decode cX4_passes 16 = .ok (.iconst 1, 1) := by decide +kernel
theorem dX4_passes_17 : decode cX4_passes 17 = .ok (.iaload, 1) := by decide +kernel
theorem dX4_passes_18 : decode cX4_passes 18 = .ok (.iload_n 1, 1) := by decide +kernel
theorem dX4_passes_19 : decode cX4_passes 19 = .ok (.iadd, 1) := by decide +kernel
theorem dX4_passes_20 : decode cX4_passes 20 = .ok (.sipush 999, 3) := by decide +kernel
theorem dX4_passes_23 : decode cX4_passes 23 = .ok (.if_icmp .le 6, 3) := by decide +kernel
theorem dX4_passes_26 : decode cX4_passes 26 = .ok (.bipush (-2), 2) := by decide +kernel
theorem dX4_passes_28 : decode cX4_passes 28 = .ok (.ireturn, 1) := by decide +kernel
theorem dX4_passes_29 : decode cX4_passes 29 = .ok (.aload_n 0, 1) := by decide +kernel
theorem dX4_passes_30 : decode cX4_passes 30 = .ok (.invokevirtual 115, 3) := by decide +kernel
theorem dX4_passes_33 : decode cX4_passes 33 = .ok (.aload_n 0, 1) := by decide +kernel
theorem dX4_passes_34 : decode cX4_passes 34 = .ok (.getfield 7, 3) := by decide +kernel
theorem dX4_passes_37 : decode cX4_passes 37 = .ok (.iconst 1, 1) := by decide +kernel
theorem dX4_passes_38 : decode cX4_passes 38 = .ok (.dup2, 1) := by decide +kernel
theorem dX4_passes_39 : decode cX4_passes 39 = .ok (.iaload, 1) := by decide +kernel
theorem dX4_passes_40 : decode cX4_passes 40 = .ok (.iload_n 1, 1) := by decide +kernel
theorem dX4_passes_41 : decode cX4_passes 41 = .ok (.iadd, 1) := by decide +kernel
theorem dX4_passes_42 : decode cX4_passes 42 = .ok (.iastore, 1) := by decide +kernel
theorem dX4_passes_43 : decode cX4_passes 43 = .ok (.aload_n 0, 1) := by decide +kernel
theorem dX4_passes_44 : decode cX4_passes 44 = .ok (.getfield 7, 3) := by decide +kernel
theorem dX4_passes_47 : decode cX4_passes 47 = .ok (.iconst 1, 1) := by decide +kernel
theorem dX4_passes_48 : decode cX4_passes 48 = .ok (.iaload, 1) := by decide +kernel
theorem dX4_passes_49 : decode cX4_passes 49 = .ok (.ireturn, 1) := by decide +kernel
theorem dX4_pulls_0 : decode cX4_pulls 0 = .ok (.aload_n 0, 1) := by decide +kernel
theorem dX4_pulls_1 : decode cX4_pulls 1 = .ok (.iload_n 1, 1) := by decide +kernel
theorem dX4_pulls_2 : decode cX4_pulls 2 = .ok (.iload_n 2, 1) := by decide +kernel
theorem dX4_pulls_3 : decode cX4_pulls 3 = .ok (.invokevirtual 164, 3) := by decide +kernel
theorem dX4_pulls_6 : decode cX4_pulls 6 = .ok (.ifCond .ne 5, 3) := by decide +kernel
theorem dX4_pulls_9 : decode cX4_pulls 9 = .ok (.iconst (-1), 1) := by decide +kernel
theorem dX4_pulls_10 : decode cX4_pulls 10 = .ok (.ireturn, 1) := by decide +kernel
theorem dX4_pulls_11 : decode cX4_pulls 11 = .ok (.aload_n 0, 1) := by decide +kernel
theorem dX4_pulls_12 : decode cX4_pulls 12 = .ok (.invokevirtual 115, 3) := by decide +kernel
theorem dX4_pulls_15 : decode cX4_pulls 15 = .ok (.aload_n 0, 1) := by decide +kernel
theorem dX4_pulls_16 : decode cX4_pulls 16 = .ok (.getfield 7, 3) := by decide +kernel
theorem dX4_pulls_19 : decode cX4_pulls 19 = .ok (.bipush 87, 2) := by decide +kernel
theorem dX4_pulls_21 : decode cX4_pulls 21 = .ok (.iload_n 1, 1) := by decide +kernel
theorem dX4_pulls_22 : decode cX4_pulls 22 = .ok (.iadd, 1) := by decide +kernel
theorem dX4_pulls_23 : decode cX4_pulls 23 = .ok (.iaload, 1) := by decide +kernel
theorem dX4_pulls_24 : decode cX4_pulls 24 = .ok (.invokestatic 139, 3) := by decide +kernel
theorem dX4_pulls_27 : decode cX4_pulls 27 = .ok (.istore_n 3, 1) := by decide +kernel
theorem dX4_pulls_28 : decode cX4_pulls 28 = .ok (.aload_n 0, 1) := by decide +kernel
theorem dX4_pulls_29 : decode cX4_pulls 29 = .ok (.iload_n 1, 1) := by decide +kernel
theorem dX4_pulls_30 : decode cX4_pulls 30 = .ok (.iload_n 2, 1) := by decide +kernel
theorem dX4_pulls_31 : decode cX4_pulls 31 = .ok (.invokevirtual 148, 3) := by decide +kernel
theorem dX4_pulls_34 : decode cX4_pulls 34 = .ok (.aload_n 0, 1) := by decide +kernel
theorem dX4_pulls_35 : decode cX4_pulls 35 = .ok (.getfield 7, 3) := by decide +kernel
theorem dX4_pulls_38 : decode cX4_pulls 38 = .ok (.bipush 87, 2) := by decide +kernel
theorem dX4_pulls_40 : decode cX4_pulls 40 = .ok (.iload_n 1, 1) := by decide +kernel
theorem dX4_pulls_41 : decode cX4_pulls 41 = .ok (.iadd, 1) := by decide +kernel
theorem dX4_pulls_42 : decode cX4_pulls 42 = .ok (.iaload, 1) := by decide +kernel
theorem dX4_pulls_43 : decode cX4_pulls 43 = .ok (.invokestatic 139, 3) := by decide +kernel
theorem dX4_pulls_46 : decode cX4_pulls 46 = .ok (.iload_n 3, 1) := by decide +kernel
theorem dX4_pulls_47 : decode cX4_pulls 47 = .ok (.isub, 1) := by decide +kernel
theorem dX4_pulls_48 : decode cX4_pulls 48 = .ok (.ireturn, 1) := by decide +kernel
theorem dX4_reads_0 : decode cX4_reads 0 = .ok (.aload_n 0, 1) := by decide +kernel
theorem dX4_reads_1 : decode cX4_reads 1 = .ok (.iload_n 1, 1) := by decide +kernel
theorem dX4_reads_2 : decode cX4_reads 2 = .ok (.invokevirtual 118, 3) := by decide +kernel
theorem dX4_reads_5 : decode cX4_reads 5 = .ok (.ifCond .ne 5, 3) := by decide +kernel
theorem dX4_reads_8 : decode cX4_reads 8 = .ok (.iconst (-1), 1) := by decide +kernel
theorem dX4_reads_9 : decode cX4_reads 9 = .ok (.ireturn, 1) := by decide +kernel
theorem dX4_reads_10 : decode cX4_reads 10 = .ok (.aload_n 0, 1) := by decide +kernel
theorem dX4_reads_11 : decode cX4_reads 11 = .ok (.invokevirtual 115, 3) := by decide +kernel
theorem dX4_reads_14 : decode cX4_reads 14 = .ok (.aload_n 0, 1) := by decide +kernel
theorem dX4_reads_15 : decode cX4_reads 15 = .ok (.iload_n 1, 1) := by decide +kernel
theorem dX4_reads_16 : decode cX4_reads 16 = .ok (.invokevirtual 155, 3) := by decide +kernel
theorem dX4_reads_19 : decode cX4_reads 19 = .ok (.ireturn, 1) := by decide +kernel
theorem dX4_moves_0 : decode cX4_moves 0 = .ok (.aload_n 0, 1) := by decide +kernel
theorem dX4_moves_1 : decode cX4_moves 1 = .ok (.iload_n 1, 1) := by decide +kernel
theorem dX4_moves_2 : decode cX4_moves 2 = .ok (.iload_n 2, 1) := by decide +kernel
theorem dX4_moves_3 : decode cX4_moves 3 = .ok (.invokevirtual 164, 3) := by decide +kernel
theorem dX4_moves_6 : decode cX4_moves 6 = .ok (.ifCond .eq 28, 3) := by decide +kernel
theorem dX4_moves_9 : decode cX4_moves 9 = .ok (.aload_n 0, 1) := by decide +kernel
theorem dX4_moves_10 : decode cX4_moves 10 = .ok (.iload_n 1, 1) := by decide +kernel
theorem dX4_moves_11 : decode cX4_moves 11 = .ok (.iload_n 3, 1) := by decide +kernel
theorem dX4_moves_12 : decode cX4_moves 12 = .ok (.invokevirtual 164, 3) := by decide +kernel
theorem dX4_moves_15 : decode cX4_moves 15 = .ok (.ifCond .eq 19, 3) := by decide +kernel
theorem dX4_moves_18 : decode cX4_moves 18 = .ok (.iload_n 2, 1) := by decide +kernel
theorem dX4_moves_19 : decode cX4_moves 19 = .ok (.iload_n 3, 1) := by decide +kernel
theorem dX4_moves_20 : decode cX4_moves 20 = .ok (.if_icmp .eq 14, 3) := by decide +kernel
theorem dX4_moves_23 : decode cX4_moves 23 = .ok (.iload 4, 2) := by decide +kernel
theorem dX4_moves_25 : decode cX4_moves 25 = .ok (.iconst 1, 1) := by decide +kernel
theorem dX4_moves_26 : decode cX4_moves 26 = .ok (.bipush 99, 2) := by decide +kernel
theorem dX4_moves_28 : decode cX4_moves 28 = .ok (.invokestatic 63, 3) := by decide +kernel
theorem dX4_moves_31 : decode cX4_moves 31 = .ok (.ifCond .ne 5, 3) := by decide +kernel
theorem dX4_moves_34 : decode cX4_moves 34 = .ok (.iconst (-1), 1) := by decide +kernel
theorem dX4_moves_35 : decode cX4_moves 35 = .ok (.ireturn, 1) := by decide +kernel
theorem dX4_moves_36 : decode cX4_moves 36 = .ok (.aload_n 0, 1) := by decide +kernel
theorem dX4_moves_37 : decode cX4_moves 37 = .ok (.iload_n 2, 1) := by decide +kernel
theorem dX4_moves_38 : decode cX4_moves 38 = .ok (.iload_n 1, 1) := by decide +kernel
theorem dX4_moves_39 : decode cX4_moves 39 = .ok (.invokevirtual 158, 3) := by decide +kernel
theorem dX4_moves_42 : decode cX4_moves 42 = .ok (.iload 4, 2) := by decide +kernel
theorem dX4_moves_44 : decode cX4_moves 44 = .ok (.if_icmp .ge 6, 3) := by decide +kernel
theorem dX4_moves_47 : decode cX4_moves 47 = .ok (.bipush (-2), 2) := by decide +kernel
theorem dX4_moves_49 : decode cX4_moves 49 = .ok (.ireturn, 1) := by decide +kernel
theorem dX4_moves_50 : decode cX4_moves 50 = .ok (.aload_n 0, 1) := by decide +kernel
theorem dX4_moves_51 : decode cX4_moves 51 = .ok (.invokevirtual 115, 3) := by decide +kernel
theorem dX4_moves_54 : decode cX4_moves 54 = .ok (.aload_n 0, 1) := by decide +kernel
theorem dX4_moves_55 : decode cX4_moves 55 = .ok (.getfield 7, 3) := by decide +kernel
theorem dX4_moves_58 : decode cX4_moves 58 = .ok (.aload_n 0, 1) := by decide +kernel
theorem dX4_moves_59 : decode cX4_moves 59 = .ok (.iload_n 2, 1) := by decide +kernel
theorem dX4_moves_60 : decode cX4_moves 60 = .ok (.iload_n 1, 1) := by decide +kernel
theorem dX4_moves_61 : decode cX4_moves 61 = .ok (.invokevirtual 132, 3) := by decide +kernel
theorem dX4_moves_64 : decode cX4_moves 64 = .ok (.dup2, 1) := by decide +kernel
theorem dX4_moves_65 : decode cX4_moves 65 = .ok (.iaload, 1) := by decide +kernel
theorem dX4_moves_66 : decode cX4_moves 66 = .ok (.iload 4, 2) := by decide +kernel
theorem dX4_moves_68 : decode cX4_moves 68 = .ok (.isub, 1) := by decide +kernel
theorem dX4_moves_69 : decode cX4_moves 69 = .ok (.iastore, 1) := by decide +kernel
theorem dX4_moves_70 : decode cX4_moves 70 = .ok (.aload_n 0, 1) := by decide +kernel
theorem dX4_moves_71 : decode cX4_moves 71 = .ok (.getfield 7, 3) := by decide +kernel
theorem dX4_moves_74 : decode cX4_moves 74 = .ok (.aload_n 0, 1) := by decide +kernel
theorem dX4_moves_75 : decode cX4_moves 75 = .ok (.iload_n 3, 1) := by decide +kernel
theorem dX4_moves_76 : decode cX4_moves 76 = .ok (.iload_n 1, 1) := by decide +kernel
theorem dX4_moves_77 : decode cX4_moves 77 = .ok (.invokevirtual 132, 3) := by decide +kernel
theorem dX4_moves_80 : decode cX4_moves 80 = .ok (.dup2, 1) := by decide +kernel
theorem dX4_moves_81 : decode cX4_moves 81 = .ok (.iaload, 1) := by decide +kernel
theorem dX4_moves_82 : decode cX4_moves 82 = .ok (.iload 4, 2) := by decide +kernel
theorem dX4_moves_84 : decode cX4_moves 84 = .ok (.iadd, 1) := by decide +kernel
theorem dX4_moves_85 : decode cX4_moves 85 = .ok (.iastore, 1) := by decide +kernel
theorem dX4_moves_86 : decode cX4_moves 86 = .ok (.aload_n 0, 1) := by decide +kernel
theorem dX4_moves_87 : decode cX4_moves 87 = .ok (.getfield 7, 3) := by decide +kernel
theorem dX4_moves_90 : decode cX4_moves 90 = .ok (.aload_n 0, 1) := by decide +kernel
theorem dX4_moves_91 : decode cX4_moves 91 = .ok (.iload_n 2, 1) := by decide +kernel
theorem dX4_moves_92 : decode cX4_moves 92 = .ok (.iload_n 1, 1) := by decide +kernel
theorem dX4_moves_93 : decode cX4_moves 93 = .ok (.invokevirtual 132, 3) := by decide +kernel
theorem dX4_moves_96 : decode cX4_moves 96 = .ok (.iaload, 1) := by decide +kernel
theorem dX4_moves_97 : decode cX4_moves 97 = .ok (.ireturn, 1) := by decide +kernel
theorem dX4_evens_0 : decode cX4_evens 0 = .ok (.aload_n 0, 1) := by decide +kernel
theorem dX4_evens_1 : decode cX4_evens 1 = .ok (.iload_n 1, 1) := by decide +kernel
theorem dX4_evens_2 : decode cX4_evens 2 = .ok (.invokevirtual 118, 3) := by decide +kernel
theorem dX4_evens_5 : decode cX4_evens 5 = .ok (.ifCond .ne 5, 3) := by decide +kernel
theorem dX4_evens_8 : decode cX4_evens 8 = .ok (.iconst (-1), 1) := by decide +kernel
theorem dX4_evens_9 : decode cX4_evens 9 = .ok (.ireturn, 1) := by decide +kernel
theorem dX4_evens_10 : decode cX4_evens 10 = .ok (.aload_n 0, 1) := by decide +kernel
theorem dX4_evens_11 : decode cX4_evens 11 = .ok (.invokevirtual 115, 3) := by decide +kernel
theorem dX4_evens_14 : decode cX4_evens 14 = .ok (.iconst 0, 1) := by decide +kernel
theorem dX4_evens_15 : decode cX4_evens 15 = .ok (.istore_n 2, 1) := by decide +kernel
theorem dX4_evens_16 : decode cX4_evens 16 = .ok (.iconst 0, 1) := by decide +kernel
theorem dX4_evens_17 : decode cX4_evens 17 = .ok (.istore_n 3, 1) := by decide +kernel
theorem dX4_evens_18 : decode cX4_evens 18 = .ok (.iload_n 3, 1) := by decide +kernel
theorem dX4_evens_19 : decode cX4_evens 19 = .ok (.aload_n 0, 1) := by decide +kernel
theorem dX4_evens_20 : decode cX4_evens 20 = .ok (.getfield 7, 3) := by decide +kernel
theorem dX4_evens_23 : decode cX4_evens 23 = .ok (.iconst 0, 1) := by decide +kernel
theorem dX4_evens_24 : decode cX4_evens 24 = .ok (.iaload, 1) := by decide +kernel
theorem dX4_evens_25 : decode cX4_evens 25 = .ok (.if_icmp .ge 27, 3) := by decide +kernel
theorem dX4_evens_28 : decode cX4_evens 28 = .ok (.iload_n 2, 1) := by decide +kernel
theorem dX4_evens_29 : decode cX4_evens 29 = .ok (.iload_n 3, 1) := by decide +kernel
theorem dX4_evens_30 : decode cX4_evens 30 = .ok (.iload_n 1, 1) := by decide +kernel
theorem dX4_evens_31 : decode cX4_evens 31 = .ok (.if_icmp .ne 7, 3) := by decide +kernel
theorem dX4_evens_34 : decode cX4_evens 34 = .ok (.iconst 0, 1) := by decide +kernel
theorem dX4_evens_35 : decode cX4_evens 35 = .ok (.goto 9, 3) := by decide +kernel
theorem dX4_evens_38 : decode cX4_evens 38 = .ok (.aload_n 0, 1) := by decide +kernel
theorem dX4_evens_39 : decode cX4_evens 39 = .ok (.iload_n 3, 1) := by decide +kernel
theorem dX4_evens_40 : decode cX4_evens 40 = .ok (.iload_n 1, 1) := by decide +kernel
theorem dX4_evens_41 : decode cX4_evens 41 = .ok (.invokevirtual 158, 3) := by decide +kernel
theorem dX4_evens_44 : decode cX4_evens 44 = .ok (.iadd, 1) := by decide +kernel
theorem dX4_evens_45 : decode cX4_evens 45 = .ok (.istore_n 2, 1) := by decide +kernel
theorem dX4_evens_46 : decode cX4_evens 46 = .ok (.iinc 3 1, 3) := by decide +kernel
theorem dX4_evens_49 : decode cX4_evens 49 = .ok (.goto (-31), 3) := by decide +kernel
theorem dX4_evens_52 : decode cX4_evens 52 = .ok (.aload_n 0, 1) := by decide +kernel
theorem dX4_evens_53 : decode cX4_evens 53 = .ok (.getfield 7, 3) := by decide +kernel
theorem dX4_evens_56 : decode cX4_evens 56 = .ok (.iconst 0, 1) := by decide +kernel
theorem dX4_evens_57 : decode cX4_evens 57 = .ok (.iaload, 1) := by decide +kernel
theorem dX4_evens_58 : decode cX4_evens 58 = .ok (.iconst 1, 1) := by decide +kernel
theorem dX4_evens_59 : decode cX4_evens 59 = .ok (.isub, 1) := by decide +kernel
theorem dX4_evens_60 : decode cX4_evens 60 = .ok (.istore_n 3, 1) := by decide +kernel
theorem dX4_evens_61 : decode cX4_evens 61 = .ok (.iload_n 2, 1) := by decide +kernel
theorem dX4_evens_62 : decode cX4_evens 62 = .ok (.iload_n 3, 1) := by decide +kernel
theorem dX4_evens_63 : decode cX4_evens 63 = .ok (.irem, 1) := by decide +kernel
theorem dX4_evens_64 : decode cX4_evens 64 = .ok (.istore 4, 2) := by decide +kernel
theorem dX4_evens_66 : decode cX4_evens 66 = .ok (.iconst 0, 1) := by decide +kernel
theorem dX4_evens_67 : decode cX4_evens 67 = .ok (.istore 5, 2) := by decide +kernel
theorem dX4_evens_69 : decode cX4_evens 69 = .ok (.iload 5, 2) := by decide +kernel
theorem dX4_evens_71 : decode cX4_evens 71 = .ok (.aload_n 0, 1) := by decide +kernel
theorem dX4_evens_72 : decode cX4_evens 72 = .ok (.getfield 7, 3) := by decide +kernel
theorem dX4_evens_75 : decode cX4_evens 75 = .ok (.iconst 0, 1) := by decide +kernel
theorem dX4_evens_76 : decode cX4_evens 76 = .ok (.iaload, 1) := by decide +kernel
theorem dX4_evens_77 : decode cX4_evens 77 = .ok (.if_icmp .ge 52, 3) := by decide +kernel
theorem dX4_evens_80 : decode cX4_evens 80 = .ok (.iload 5, 2) := by decide +kernel
theorem dX4_evens_82 : decode cX4_evens 82 = .ok (.iload_n 1, 1) := by decide +kernel
theorem dX4_evens_83 : decode cX4_evens 83 = .ok (.if_icmp .eq 40, 3) := by decide +kernel
theorem dX4_evens_86 : decode cX4_evens 86 = .ok (.aload_n 0, 1) := by decide +kernel
theorem dX4_evens_87 : decode cX4_evens 87 = .ok (.getfield 7, 3) := by decide +kernel
theorem dX4_evens_90 : decode cX4_evens 90 = .ok (.aload_n 0, 1) := by decide +kernel
theorem dX4_evens_91 : decode cX4_evens 91 = .ok (.iload 5, 2) := by decide +kernel
theorem dX4_evens_93 : decode cX4_evens 93 = .ok (.iload_n 1, 1) := by decide +kernel
theorem dX4_evens_94 : decode cX4_evens 94 = .ok (.invokevirtual 132, 3) := by decide +kernel
theorem dX4_evens_97 : decode cX4_evens 97 = .ok (.aload_n 0, 1) := by decide +kernel
theorem dX4_evens_98 : decode cX4_evens 98 = .ok (.iload 5, 2) := by decide +kernel
theorem dX4_evens_100 : decode cX4_evens 100 = .ok (.iload_n 1, 1) := by decide +kernel
theorem dX4_evens_101 : decode cX4_evens 101 = .ok (.invokevirtual 136, 3) := by decide +kernel
theorem dX4_evens_104 : decode cX4_evens 104 = .ok (.iload_n 2, 1) := by decide +kernel
theorem dX4_evens_105 : decode cX4_evens 105 = .ok (.iload_n 3, 1) := by decide +kernel
theorem dX4_evens_106 : decode cX4_evens 106 = .ok (.idiv, 1) := by decide +kernel
theorem dX4_evens_107 : decode cX4_evens 107 = .ok (.iadd, 1) := by decide +kernel
theorem dX4_evens_108 : decode cX4_evens 108 = .ok (.iload 4, 2) := by decide +kernel
theorem dX4_evens_110 : decode cX4_evens 110 = .ok (.ifCond .le 7, 3) := by decide +kernel
theorem dX4_evens_113 : decode cX4_evens 113 = .ok (.iconst 1, 1) := by decide +kernel
theorem dX4_evens_114 : decode cX4_evens 114 = .ok (.goto 4, 3) := by decide +kernel
theorem dX4_evens_117 : decode cX4_evens 117 = .ok (.iconst 0, 1) := by decide +kernel
theorem dX4_evens_118 : decode cX4_evens 118 = .ok (.iadd, 1) := by decide +kernel
theorem dX4_evens_119 : decode cX4_evens 119 = .ok (.iastore, 1) := by decide +kernel
theorem dX4_evens_120 : decode cX4_evens 120 = .ok (.iinc 4 (-1), 3) := by decide +kernel
theorem dX4_evens_123 : decode cX4_evens 123 = .ok (.iinc 5 1, 3) := by decide +kernel
theorem dX4_evens_126 : decode cX4_evens 126 = .ok (.goto (-57), 3) := by decide +kernel
theorem dX4_evens_129 : decode cX4_evens 129 = .ok (.iload_n 2, 1) := by decide +kernel
theorem dX4_evens_130 : decode cX4_evens 130 = .ok (.ireturn, 1) := by decide +kernel
theorem dX4_bounds_0 : decode cX4_bounds 0 = .ok (.aload_n 0, 1) := by decide +kernel
theorem dX4_bounds_1 : decode cX4_bounds 1 = .ok (.iload_n 1, 1) := by decide +kernel
theorem dX4_bounds_2 : decode cX4_bounds 2 = .ok (.invokevirtual 118, 3) := by decide +kernel
theorem dX4_bounds_5 : decode cX4_bounds 5 = .ok (.ifCond .eq 34, 3) := by decide +kernel
theorem dX4_bounds_8 : decode cX4_bounds 8 = .ok (.iload_n 2, 1) := by decide +kernel
theorem dX4_bounds_9 : decode cX4_bounds 9 = .ok (.iconst 0, 1) := by decide +kernel
theorem dX4_bounds_10 : decode cX4_bounds 10 = .ok (.bipush 99, 2) := by decide +kernel
theorem dX4_bounds_12 : decode cX4_bounds 12 = .ok (.invokestatic 63, 3) := by decide +kernel
theorem dX4_bounds_15 : decode cX4_bounds 15 = .ok (.ifCond .eq 24, 3) := by decide +kernel
theorem dX4_bounds_18 : decode cX4_bounds 18 = .ok (.iload_n 3, 1) := by decide +kernel
theorem dX4_bounds_19 : decode cX4_bounds 19 = .ok (.iconst 0, 1) := by decide +kernel
theorem dX4_bounds_20 : decode cX4_bounds 20 = .ok (.bipush 9, 2) := by decide +kernel
theorem dX4_bounds_22 : decode cX4_bounds 22 = .ok (.invokestatic 63, 3) := by decide +kernel
theorem dX4_bounds_25 : decode cX4_bounds 25 = .ok (.ifCond .eq 14, 3) := by decide +kernel
theorem dX4_bounds_28 : decode cX4_bounds 28 = .ok (.iload 4, 2) := by decide +kernel
theorem dX4_bounds_30 : decode cX4_bounds 30 = .ok (.iconst 0, 1) := by decide +kernel
theorem dX4_bounds_31 : decode cX4_bounds 31 = .ok (.bipush 99, 2) := by decide +kernel
theorem dX4_bounds_33 : decode cX4_bounds 33 = .ok (.invokestatic 63, 3) := by decide +kernel
theorem dX4_bounds_36 : decode cX4_bounds 36 = .ok (.ifCond .ne 5, 3) := by decide +kernel
theorem dX4_bounds_39 : decode cX4_bounds 39 = .ok (.iconst (-1), 1) := by decide +kernel
theorem dX4_bounds_40 : decode cX4_bounds 40 = .ok (.ireturn, 1) := by decide +kernel
theorem dX4_bounds_41 : decode cX4_bounds 41 = .ok (.iconst 2, 1) := by decide +kernel
theorem dX4_bounds_42 : decode cX4_bounds 42 = .ok (.iconst 3, 1) := by decide +kernel
theorem dX4_bounds_43 : decode cX4_bounds 43 = .ok (.iload_n 1, 1) := by decide +kernel
theorem dX4_bounds_44 : decode cX4_bounds 44 = .ok (.imul, 1) := by decide +kernel
theorem dX4_bounds_45 : decode cX4_bounds 45 = .ok (.iadd, 1) := by decide +kernel
theorem dX4_bounds_46 : decode cX4_bounds 46 = .ok (.istore 5, 2) := by decide +kernel
theorem dX4_bounds_48 : decode cX4_bounds 48 = .ok (.aload_n 0, 1) := by decide +kernel
theorem dX4_bounds_49 : decode cX4_bounds 49 = .ok (.getfield 7, 3) := by decide +kernel
theorem dX4_bounds_52 : decode cX4_bounds 52 = .ok (.iload 5, 2) := by decide +kernel
theorem dX4_bounds_54 : decode cX4_bounds 54 = .ok (.iaload, 1) := by decide +kernel
theorem dX4_bounds_55 : decode cX4_bounds 55 = .ok (.iload_n 2, 1) := by decide +kernel
theorem dX4_bounds_56 : decode cX4_bounds 56 = .ok (.if_icmp .ne 7, 3) := by decide +kernel
theorem dX4_bounds_59 : decode cX4_bounds 59 = .ok (.iconst 1, 1) := by decide +kernel
theorem dX4_bounds_60 : decode cX4_bounds 60 = .ok (.goto 4, 3) := by decide +kernel
theorem dX4_bounds_63 : decode cX4_bounds 63 = .ok (.iconst 0, 1) := by decide +kernel
theorem dX4_bounds_64 : decode cX4_bounds 64 = .ok (.istore 6, 2) := by decide +kernel
theorem dX4_bounds_66 : decode cX4_bounds 66 = .ok (.iload 6, 2) := by decide +kernel
theorem dX4_bounds_68 : decode cX4_bounds 68 = .ok (.ifCond .eq 33, 3) := by decide +kernel
theorem dX4_bounds_71 : decode cX4_bounds 71 = .ok (.aload_n 0, 1) := by decide +kernel
theorem dX4_bounds_72 : decode cX4_bounds 72 = .ok (.getfield 7, 3) := by decide +kernel
theorem dX4_bounds_75 : decode cX4_bounds 75 = .ok (.iload 5, 2) := by decide +kernel
theorem dX4_bounds_77 : decode cX4_bounds 77 = .ok (.iconst 1, 1) := by decide +kernel
theorem dX4_bounds_78 : decode cX4_bounds 78 = .ok (.iadd, 1) := by decide +kernel
theorem dX4_bounds_79 : decode cX4_bounds 79 = .ok (.iaload, 1) := by decide +kernel
theorem dX4_bounds_80 : decode cX4_bounds 80 = .ok (.iload_n 3, 1) := by decide +kernel
theorem dX4_bounds_81 : decode cX4_bounds 81 = .ok (.if_icmp .ne 20, 3) := by decide +kernel
theorem dX4_bounds_84 : decode cX4_bounds 84 = .ok (.aload_n 0, 1) := by decide +kernel
theorem dX4_bounds_85 : decode cX4_bounds 85 = .ok (.getfield 7, 3) := by decide +kernel
theorem dX4_bounds_88 : decode cX4_bounds 88 = .ok (.iload 5, 2) := by decide +kernel
theorem dX4_bounds_90 : decode cX4_bounds 90 = .ok (.iconst 2, 1) := by decide +kernel
theorem dX4_bounds_91 : decode cX4_bounds 91 = .ok (.iadd, 1) := by decide +kernel
theorem dX4_bounds_92 : decode cX4_bounds 92 = .ok (.iaload, 1) := by decide +kernel
theorem dX4_bounds_93 : decode cX4_bounds 93 = .ok (.iload 4, 2) := by decide +kernel
theorem dX4_bounds_95 : decode cX4_bounds 95 = .ok (.if_icmp .ne 6, 3) := by decide +kernel
theorem dX4_bounds_98 : decode cX4_bounds 98 = .ok (.bipush (-2), 2) := by decide +kernel
theorem dX4_bounds_100 : decode cX4_bounds 100 = .ok (.ireturn, 1) := by decide +kernel
theorem dX4_bounds_101 : decode cX4_bounds 101 = .ok (.aload_n 0, 1) := by decide +kernel
theorem dX4_bounds_102 : decode cX4_bounds 102 = .ok (.invokevirtual 115, 3) := by decide +kernel
theorem dX4_bounds_105 : decode cX4_bounds 105 = .ok (.aload_n 0, 1) := by decide +kernel
theorem dX4_bounds_106 : decode cX4_bounds 106 = .ok (.getfield 7, 3) := by decide +kernel
theorem dX4_bounds_109 : decode cX4_bounds 109 = .ok (.iload 5, 2) := by decide +kernel
theorem dX4_bounds_111 : decode cX4_bounds 111 = .ok (.iload_n 2, 1) := by decide +kernel
theorem dX4_bounds_112 : decode cX4_bounds 112 = .ok (.iastore, 1) := by decide +kernel
theorem dX4_bounds_113 : decode cX4_bounds 113 = .ok (.aload_n 0, 1) := by decide +kernel
theorem dX4_bounds_114 : decode cX4_bounds 114 = .ok (.getfield 7, 3) := by decide +kernel
theorem dX4_bounds_117 : decode cX4_bounds 117 = .ok (.iload 5, 2) := by decide +kernel
theorem dX4_bounds_119 : decode cX4_bounds 119 = .ok (.iconst 1, 1) := by decide +kernel
theorem dX4_bounds_120 : decode cX4_bounds 120 = .ok (.iadd, 1) := by decide +kernel
theorem dX4_bounds_121 : decode cX4_bounds 121 = .ok (.iload_n 3, 1) := by decide +kernel
theorem dX4_bounds_122 : decode cX4_bounds 122 = .ok (.iastore, 1) := by decide +kernel
theorem dX4_bounds_123 : decode cX4_bounds 123 = .ok (.aload_n 0, 1) := by decide +kernel
theorem dX4_bounds_124 : decode cX4_bounds 124 = .ok (.getfield 7, 3) := by decide +kernel
theorem dX4_bounds_127 : decode cX4_bounds 127 = .ok (.iload 5, 2) := by decide +kernel
theorem dX4_bounds_129 : decode cX4_bounds 129 = .ok (.iconst 2, 1) := by decide +kernel
theorem dX4_bounds_130 : decode cX4_bounds 130 = .ok (.iadd, 1) := by decide +kernel
theorem dX4_bounds_131 : decode cX4_bounds 131 = .ok (.iload 4, 2) := by decide +kernel
theorem dX4_bounds_133 : decode cX4_bounds 133 = .ok (.iastore, 1) := by decide +kernel
theorem dX4_bounds_134 : decode cX4_bounds 134 = .ok (.iload 6, 2) := by decide +kernel
theorem dX4_bounds_136 : decode cX4_bounds 136 = .ok (.ifCond .ne 11, 3) := by decide +kernel
theorem dX4_bounds_139 : decode cX4_bounds 139 = .ok (.aload_n 0, 1) := by decide +kernel
theorem dX4_bounds_140 : decode cX4_bounds 140 = .ok (.getfield 7, 3) := by decide +kernel
theorem dX4_bounds_143 : decode cX4_bounds 143 = .ok (.iload_n 1, 1) := by decide +kernel
theorem dX4_bounds_144 : decode cX4_bounds 144 = .ok (.invokestatic 53, 3) := by decide +kernel
theorem dX4_bounds_147 : decode cX4_bounds 147 = .ok (.iconst 0, 1) := by decide +kernel
theorem dX4_bounds_148 : decode cX4_bounds 148 = .ok (.istore 7, 2) := by decide +kernel
theorem dX4_bounds_150 : decode cX4_bounds 150 = .ok (.iconst 0, 1) := by decide +kernel
theorem dX4_bounds_151 : decode cX4_bounds 151 = .ok (.istore 8, 2) := by decide +kernel
theorem dX4_bounds_153 : decode cX4_bounds 153 = .ok (.iload 8, 2) := by decide +kernel
theorem dX4_bounds_155 : decode cX4_bounds 155 = .ok (.aload_n 0, 1) := by decide +kernel
theorem dX4_bounds_156 : decode cX4_bounds 156 = .ok (.getfield 7, 3) := by decide +kernel
theorem dX4_bounds_159 : decode cX4_bounds 159 = .ok (.iconst 0, 1) := by decide +kernel
theorem dX4_bounds_160 : decode cX4_bounds 160 = .ok (.iaload, 1) := by decide +kernel
theorem dX4_bounds_161 : decode cX4_bounds 161 = .ok (.if_icmp .ge 35, 3) := by decide +kernel
theorem dX4_bounds_164 : decode cX4_bounds 164 = .ok (.iload 8, 2) := by decide +kernel
theorem dX4_bounds_166 : decode cX4_bounds 166 = .ok (.iload_n 1, 1) := by decide +kernel
theorem dX4_bounds_167 : decode cX4_bounds 167 = .ok (.if_icmp .eq 23, 3) := by decide +kernel
theorem dX4_bounds_170 : decode cX4_bounds 170 = .ok (.aload_n 0, 1) := by decide +kernel
theorem dX4_bounds_171 : decode cX4_bounds 171 = .ok (.iload 8, 2) := by decide +kernel
theorem dX4_bounds_173 : decode cX4_bounds 173 = .ok (.iload_n 1, 1) := by decide +kernel
theorem dX4_bounds_174 : decode cX4_bounds 174 = .ok (.invokevirtual 158, 3) := by decide +kernel
theorem dX4_bounds_177 : decode cX4_bounds 177 = .ok (.ifCond .ge 13, 3) := by decide +kernel
theorem dX4_bounds_180 : decode cX4_bounds 180 = .ok (.aload_n 0, 1) := by decide +kernel
theorem dX4_bounds_181 : decode cX4_bounds 181 = .ok (.iload 8, 2) := by decide +kernel
theorem dX4_bounds_183 : decode cX4_bounds 183 = .ok (.iload_n 1, 1) := by decide +kernel
theorem dX4_bounds_184 : decode cX4_bounds 184 = .ok (.invokevirtual 161, 3) := by decide +kernel
theorem dX4_bounds_187 : decode cX4_bounds 187 = .ok (.iinc 7 1, 3) := by decide +kernel
theorem dX4_bounds_190 : decode cX4_bounds 190 = .ok (.iinc 8 1, 3) := by decide +kernel
theorem dX4_bounds_193 : decode cX4_bounds 193 = .ok (.goto (-40), 3) := by decide +kernel
theorem dX4_bounds_196 : decode cX4_bounds 196 = .ok (.iload 7, 2) := by decide +kernel
theorem dX4_bounds_198 : decode cX4_bounds 198 = .ok (.ireturn, 1) := by decide +kernel
theorem dX4_undo_0 : decode cX4_undo 0 = .ok (.aload_n 0, 1) := by decide +kernel
theorem dX4_undo_1 : decode cX4_undo 1 = .ok (.getfield 49, 3) := by decide +kernel
theorem dX4_undo_4 : decode cX4_undo 4 = .ok (.ifCond .ne 6, 3) := by decide +kernel
theorem dX4_undo_7 : decode cX4_undo 7 = .ok (.bipush (-2), 2) := by decide +kernel
theorem dX4_undo_9 : decode cX4_undo 9 = .ok (.ireturn, 1) := by decide +kernel
theorem dX4_undo_10 : decode cX4_undo 10 = .ok (.aload_n 0, 1) := by decide +kernel
theorem dX4_undo_11 : decode cX4_undo 11 = .ok (.dup, 1) := by decide +kernel
theorem dX4_undo_12 : decode cX4_undo 12 = .ok (.getfield 49, 3) := by decide +kernel
theorem dX4_undo_15 : decode cX4_undo 15 = .ok (.iconst 1, 1) := by decide +kernel
theorem dX4_undo_16 : decode cX4_undo 16 = .ok (.isub, 1) := by decide +kernel
theorem dX4_undo_17 : decode cX4_undo 17 = .ok (.putfield 49, 3) := by decide +kernel
theorem dX4_undo_20 : decode cX4_undo 20 = .ok (.aload_n 0, 1) := by decide +kernel
theorem dX4_undo_21 : decode cX4_undo 21 = .ok (.getfield 19, 3) := by decide +kernel
theorem dX4_undo_24 : decode cX4_undo 24 = .ok (.bipush 127, 2) := by decide +kernel
theorem dX4_undo_26 : decode cX4_undo 26 = .ok (.aload_n 0, 1) := by decide +kernel
theorem dX4_undo_27 : decode cX4_undo 27 = .ok (.getfield 49, 3) := by decide +kernel
theorem dX4_undo_30 : decode cX4_undo 30 = .ok (.imul, 1) := by decide +kernel
theorem dX4_undo_31 : decode cX4_undo 31 = .ok (.aload_n 0, 1) := by decide +kernel
theorem dX4_undo_32 : decode cX4_undo 32 = .ok (.getfield 7, 3) := by decide +kernel
theorem dX4_undo_35 : decode cX4_undo 35 = .ok (.iconst 0, 1) := by decide +kernel
theorem dX4_undo_36 : decode cX4_undo 36 = .ok (.invokestatic 45, 3) := by decide +kernel
theorem dX4_undo_39 : decode cX4_undo 39 = .ok (.aload_n 0, 1) := by decide +kernel
theorem dX4_undo_40 : decode cX4_undo 40 = .ok (.getfield 49, 3) := by decide +kernel
theorem dX4_undo_43 : decode cX4_undo 43 = .ok (.ireturn, 1) := by decide +kernel
theorem dX4_spare_0 : decode cX4_spare 0 = .ok (.bipush (-9), 2) := by decide +kernel
theorem dX4_spare_2 : decode cX4_spare 2 = .ok (.istore_n 2, 1) := by decide +kernel
theorem dX4_spare_3 : decode cX4_spare 3 = .ok (.iconst 0, 1) := by decide +kernel
theorem dX4_spare_4 : decode cX4_spare 4 = .ok (.istore_n 3, 1) := by decide +kernel
theorem dX4_spare_5 : decode cX4_spare 5 = .ok (.iload_n 3, 1) := by decide +kernel
theorem dX4_spare_6 : decode cX4_spare 6 = .ok (.aload_n 0, 1) := by decide +kernel
theorem dX4_spare_7 : decode cX4_spare 7 = .ok (.getfield 7, 3) := by decide +kernel
theorem dX4_spare_10 : decode cX4_spare 10 = .ok (.iconst 0, 1) := by decide +kernel
theorem dX4_spare_11 : decode cX4_spare 11 = .ok (.iaload, 1) := by decide +kernel
theorem dX4_spare_12 : decode cX4_spare 12 = .ok (.if_icmp .ge 51, 3) := by decide +kernel
theorem dX4_spare_15 : decode cX4_spare 15 = .ok (.iload_n 3, 1) := by decide +kernel
theorem dX4_spare_16 : decode cX4_spare 16 = .ok (.iload_n 1, 1) := by decide +kernel
theorem dX4_spare_17 : decode cX4_spare 17 = .ok (.if_icmp .ne 8, 3) := by decide +kernel
theorem dX4_spare_20 : decode cX4_spare 20 = .ok (.bipush (-9), 2) := by decide +kernel
theorem dX4_spare_22 : decode cX4_spare 22 = .ok (.goto 9, 3) := by decide +kernel
theorem dX4_spare_25 : decode cX4_spare 25 = .ok (.aload_n 0, 1) := by decide +kernel
theorem dX4_spare_26 : decode cX4_spare 26 = .ok (.iload_n 1, 1) := by decide +kernel
theorem dX4_spare_27 : decode cX4_spare 27 = .ok (.iload_n 3, 1) := by decide +kernel
theorem dX4_spare_28 : decode cX4_spare 28 = .ok (.invokevirtual 158, 3) := by decide +kernel
theorem dX4_spare_31 : decode cX4_spare 31 = .ok (.istore 4, 2) := by decide +kernel
theorem dX4_spare_33 : decode cX4_spare 33 = .ok (.iload_n 3, 1) := by decide +kernel
theorem dX4_spare_34 : decode cX4_spare 34 = .ok (.iload_n 1, 1) := by decide +kernel
theorem dX4_spare_35 : decode cX4_spare 35 = .ok (.if_icmp .eq 20, 3) := by decide +kernel
theorem dX4_spare_38 : decode cX4_spare 38 = .ok (.iload_n 2, 1) := by decide +kernel
theorem dX4_spare_39 : decode cX4_spare 39 = .ok (.bipush (-9), 2) := by decide +kernel
theorem dX4_spare_41 : decode cX4_spare 41 = .ok (.if_icmp .eq 9, 3) := by decide +kernel
theorem dX4_spare_44 : decode cX4_spare 44 = .ok (.iload 4, 2) := by decide +kernel
theorem dX4_spare_46 : decode cX4_spare 46 = .ok (.iload_n 2, 1) := by decide +kernel
theorem dX4_spare_47 : decode cX4_spare 47 = .ok (.if_icmp .ge 8, 3) := by decide +kernel
theorem dX4_spare_50 : decode cX4_spare 50 = .ok (.iload 4, 2) := by decide +kernel
theorem dX4_spare_52 : decode cX4_spare 52 = .ok (.goto 4, 3) := by decide +kernel
theorem dX4_spare_55 : decode cX4_spare 55 = .ok (.iload_n 2, 1) := by decide +kernel
theorem dX4_spare_56 : decode cX4_spare 56 = .ok (.istore_n 2, 1) := by decide +kernel
theorem dX4_spare_57 : decode cX4_spare 57 = .ok (.iinc 3 1, 3) := by decide +kernel
theorem dX4_spare_60 : decode cX4_spare 60 = .ok (.goto (-55), 3) := by decide +kernel
theorem dX4_spare_63 : decode cX4_spare 63 = .ok (.iload_n 2, 1) := by decide +kernel
theorem dX4_spare_64 : decode cX4_spare 64 = .ok (.ireturn, 1) := by decide +kernel
theorem dX4_copy_0 : decode cX4_copy 0 = .ok (.aload_n 0, 1) := by decide +kernel
theorem dX4_copy_1 : decode cX4_copy 1 = .ok (.iload_n 1, 1) := by decide +kernel
theorem dX4_copy_2 : decode cX4_copy 2 = .ok (.invokevirtual 118, 3) := by decide +kernel
theorem dX4_copy_5 : decode cX4_copy 5 = .ok (.ifCond .eq 13, 3) := by decide +kernel
theorem dX4_copy_8 : decode cX4_copy 8 = .ok (.iload_n 2, 1) := by decide +kernel
theorem dX4_copy_9 : decode cX4_copy 9 = .ok (.iconst 0, 1) := by decide +kernel
theorem dX4_copy_10 : decode cX4_copy 10 = .ok (.bipush 9, 2) := by decide +kernel
theorem dX4_copy_12 : decode cX4_copy 12 = .ok (.invokestatic 63, 3) := by decide +kernel
theorem dX4_copy_15 : decode cX4_copy 15 = .ok (.ifCond .ne 5, 3) := by decide +kernel
theorem dX4_copy_18 : decode cX4_copy 18 = .ok (.iconst (-1), 1) := by decide +kernel
theorem dX4_copy_19 : decode cX4_copy 19 = .ok (.ireturn, 1) := by decide +kernel
theorem dX4_copy_20 : decode cX4_copy 20 = .ok (.iload_n 2, 1) := by decide +kernel
theorem dX4_copy_21 : decode cX4_copy 21 = .ok (.tableswitch 111 3 9 #[43, 53, 63, 77, 93, 99, 105], 43) := by decide +kernel
theorem dX4_copy_64 : decode cX4_copy 64 = .ok (.aload_n 0, 1) := by decide +kernel
theorem dX4_copy_65 : decode cX4_copy 65 = .ok (.getfield 7, 3) := by decide +kernel
theorem dX4_copy_68 : decode cX4_copy 68 = .ok (.bipush 87, 2) := by decide +kernel
theorem dX4_copy_70 : decode cX4_copy 70 = .ok (.iload_n 1, 1) := by decide +kernel
theorem dX4_copy_71 : decode cX4_copy 71 = .ok (.iadd, 1) := by decide +kernel
theorem dX4_copy_72 : decode cX4_copy 72 = .ok (.iaload, 1) := by decide +kernel
theorem dX4_copy_73 : decode cX4_copy 73 = .ok (.ireturn, 1) := by decide +kernel
theorem dX4_copy_74 : decode cX4_copy 74 = .ok (.aload_n 0, 1) := by decide +kernel
theorem dX4_copy_75 : decode cX4_copy 75 = .ok (.getfield 7, 3) := by decide +kernel
theorem dX4_copy_78 : decode cX4_copy 78 = .ok (.bipush 91, 2) := by decide +kernel
theorem dX4_copy_80 : decode cX4_copy 80 = .ok (.iload_n 1, 1) := by decide +kernel
theorem dX4_copy_81 : decode cX4_copy 81 = .ok (.iadd, 1) := by decide +kernel
theorem dX4_copy_82 : decode cX4_copy 82 = .ok (.iaload, 1) := by decide +kernel
theorem dX4_copy_83 : decode cX4_copy 83 = .ok (.ireturn, 1) := by decide +kernel
theorem dX4_copy_84 : decode cX4_copy 84 = .ok (.aload_n 0, 1) := by decide +kernel
theorem dX4_copy_85 : decode cX4_copy 85 = .ok (.aload_n 0, 1) := by decide +kernel
theorem dX4_copy_86 : decode cX4_copy 86 = .ok (.getfield 7, 3) := by decide +kernel
theorem dX4_copy_89 : decode cX4_copy 89 = .ok (.bipush 87, 2) := by decide +kernel
theorem dX4_copy_91 : decode cX4_copy 91 = .ok (.iload_n 1, 1) := by decide +kernel
theorem dX4_copy_92 : decode cX4_copy 92 = .ok (.iadd, 1) := by decide +kernel
theorem dX4_copy_93 : decode cX4_copy 93 = .ok (.iaload, 1) := by decide +kernel
theorem dX4_copy_94 : decode cX4_copy 94 = .ok (.invokevirtual 129, 3) := by decide +kernel
theorem dX4_copy_97 : decode cX4_copy 97 = .ok (.ireturn, 1) := by decide +kernel
theorem dX4_copy_98 : decode cX4_copy 98 = .ok (.aload_n 0, 1) := by decide +kernel
theorem dX4_copy_99 : decode cX4_copy 99 = .ok (.aload_n 0, 1) := by decide +kernel
theorem dX4_copy_100 : decode cX4_copy 100 = .ok (.getfield 7, 3) := by decide +kernel
theorem dX4_copy_103 : decode cX4_copy 103 = .ok (.bipush 87, 2) := by decide +kernel
theorem dX4_copy_105 : decode cX4_copy 105 = .ok (.iload_n 1, 1) := by decide +kernel
theorem dX4_copy_106 : decode cX4_copy 106 = .ok (.iadd, 1) := by decide +kernel
theorem dX4_copy_107 : decode cX4_copy 107 = .ok (.iaload, 1) := by decide +kernel
theorem dX4_copy_108 : decode cX4_copy 108 = .ok (.iconst (-1), 1) := by decide +kernel
theorem dX4_copy_109 : decode cX4_copy 109 = .ok (.ixor, 1) := by decide +kernel
theorem dX4_copy_110 : decode cX4_copy 110 = .ok (.invokevirtual 129, 3) := by decide +kernel
theorem dX4_copy_113 : decode cX4_copy 113 = .ok (.ireturn, 1) := by decide +kernel
theorem dX4_copy_114 : decode cX4_copy 114 = .ok (.aload_n 0, 1) := by decide +kernel
theorem dX4_copy_115 : decode cX4_copy 115 = .ok (.iload_n 1, 1) := by decide +kernel
theorem dX4_copy_116 : decode cX4_copy 116 = .ok (.invokevirtual 152, 3) := by decide +kernel
theorem dX4_copy_119 : decode cX4_copy 119 = .ok (.ireturn, 1) := by decide +kernel
theorem dX4_copy_120 : decode cX4_copy 120 = .ok (.aload_n 0, 1) := by decide +kernel
theorem dX4_copy_121 : decode cX4_copy 121 = .ok (.iload_n 1, 1) := by decide +kernel
theorem dX4_copy_122 : decode cX4_copy 122 = .ok (.invokevirtual 167, 3) := by decide +kernel
theorem dX4_copy_125 : decode cX4_copy 125 = .ok (.ireturn, 1) := by decide +kernel
theorem dX4_copy_126 : decode cX4_copy 126 = .ok (.aload_n 0, 1) := by decide +kernel
theorem dX4_copy_127 : decode cX4_copy 127 = .ok (.iload_n 1, 1) := by decide +kernel
theorem dX4_copy_128 : decode cX4_copy 128 = .ok (.invokevirtual 170, 3) := by decide +kernel
theorem dX4_copy_131 : decode cX4_copy 131 = .ok (.ireturn, 1) := by decide +kernel
theorem dX4_copy_132 : decode cX4_copy 132 = .ok (.aload_n 0, 1) := by decide +kernel
theorem dX4_copy_133 : decode cX4_copy 133 = .ok (.getfield 7, 3) := by decide +kernel
theorem dX4_copy_136 : decode cX4_copy 136 = .ok (.iconst 2, 1) := by decide +kernel
theorem dX4_copy_137 : decode cX4_copy 137 = .ok (.iconst 3, 1) := by decide +kernel
theorem dX4_copy_138 : decode cX4_copy 138 = .ok (.iload_n 1, 1) := by decide +kernel
theorem dX4_copy_139 : decode cX4_copy 139 = .ok (.imul, 1) := by decide +kernel
theorem dX4_copy_140 : decode cX4_copy 140 = .ok (.iadd, 1) := by decide +kernel
theorem dX4_copy_141 : decode cX4_copy 141 = .ok (.iload_n 2, 1) := by decide +kernel
theorem dX4_copy_142 : decode cX4_copy 142 = .ok (.iadd, 1) := by decide +kernel
theorem dX4_copy_143 : decode cX4_copy 143 = .ok (.iaload, 1) := by decide +kernel
theorem dX4_copy_144 : decode cX4_copy 144 = .ok (.ireturn, 1) := by decide +kernel
theorem dX4_pair_0 : decode cX4_pair 0 = .ok (.aload_n 0, 1) := by decide +kernel
theorem dX4_pair_1 : decode cX4_pair 1 = .ok (.iload_n 1, 1) := by decide +kernel
theorem dX4_pair_2 : decode cX4_pair 2 = .ok (.iload_n 2, 1) := by decide +kernel
theorem dX4_pair_3 : decode cX4_pair 3 = .ok (.invokevirtual 164, 3) := by decide +kernel
theorem dX4_pair_6 : decode cX4_pair 6 = .ok (.ifCond .eq 12, 3) := by decide +kernel
theorem dX4_pair_9 : decode cX4_pair 9 = .ok (.iload_n 3, 1) := by decide +kernel
theorem dX4_pair_10 : decode cX4_pair 10 = .ok (.iconst 0, 1) := by decide +kernel
theorem dX4_pair_11 : decode cX4_pair 11 = .ok (.iconst 3, 1) := by decide +kernel
theorem dX4_pair_12 : decode cX4_pair 12 = .ok (.invokestatic 63, 3) := by decide +kernel
theorem dX4_pair_15 : decode cX4_pair 15 = .ok (.ifCond .ne 5, 3) := by decide +kernel
theorem dX4_pair_18 : decode cX4_pair 18 = .ok (.iconst (-1), 1) := by decide +kernel
theorem dX4_pair_19 : decode cX4_pair 19 = .ok (.ireturn, 1) := by decide +kernel
theorem dX4_pair_20 : decode cX4_pair 20 = .ok (.iload_n 3, 1) := by decide +kernel
theorem dX4_pair_21 : decode cX4_pair 21 = .ok (.ifCond .ne 17, 3) := by decide +kernel
theorem dX4_pair_24 : decode cX4_pair 24 = .ok (.aload_n 0, 1) := by decide +kernel
theorem dX4_pair_25 : decode cX4_pair 25 = .ok (.getfield 7, 3) := by decide +kernel
theorem dX4_pair_28 : decode cX4_pair 28 = .ok (.aload_n 0, 1) := by decide +kernel
theorem dX4_pair_29 : decode cX4_pair 29 = .ok (.iload_n 1, 1) := by decide +kernel
theorem dX4_pair_30 : decode cX4_pair 30 = .ok (.iload_n 2, 1) := by decide +kernel
theorem dX4_pair_31 : decode cX4_pair 31 = .ok (.invokevirtual 142, 3) := by decide +kernel
theorem dX4_pair_34 : decode cX4_pair 34 = .ok (.iaload, 1) := by decide +kernel
theorem dX4_pair_35 : decode cX4_pair 35 = .ok (.goto 42, 3) := by decide +kernel
theorem dX4_pair_38 : decode cX4_pair 38 = .ok (.iload_n 3, 1) := by decide +kernel
theorem dX4_pair_39 : decode cX4_pair 39 = .ok (.iconst 1, 1) := by decide +kernel
theorem dX4_pair_40 : decode cX4_pair 40 = .ok (.if_icmp .ne 17, 3) := by decide +kernel
theorem dX4_pair_43 : decode cX4_pair 43 = .ok (.aload_n 0, 1) := by decide +kernel
theorem dX4_pair_44 : decode cX4_pair 44 = .ok (.getfield 7, 3) := by decide +kernel
theorem dX4_pair_47 : decode cX4_pair 47 = .ok (.aload_n 0, 1) := by decide +kernel
theorem dX4_pair_48 : decode cX4_pair 48 = .ok (.iload_n 2, 1) := by decide +kernel
theorem dX4_pair_49 : decode cX4_pair 49 = .ok (.iload_n 1, 1) := by decide +kernel
theorem dX4_pair_50 : decode cX4_pair 50 = .ok (.invokevirtual 132, 3) := by decide +kernel
theorem dX4_pair_53 : decode cX4_pair 53 = .ok (.iaload, 1) := by decide +kernel
theorem dX4_pair_54 : decode cX4_pair 54 = .ok (.goto 23, 3) := by decide +kernel
theorem dX4_pair_57 : decode cX4_pair 57 = .ok (.iload_n 3, 1) := by decide +kernel
theorem dX4_pair_58 : decode cX4_pair 58 = .ok (.iconst 2, 1) := by decide +kernel
theorem dX4_pair_59 : decode cX4_pair 59 = .ok (.if_icmp .ne 12, 3) := by decide +kernel
theorem dX4_pair_62 : decode cX4_pair 62 = .ok (.aload_n 0, 1) := by decide +kernel
theorem dX4_pair_63 : decode cX4_pair 63 = .ok (.iload_n 2, 1) := by decide +kernel
theorem dX4_pair_64 : decode cX4_pair 64 = .ok (.iload_n 1, 1) := by decide +kernel
theorem dX4_pair_65 : decode cX4_pair 65 = .ok (.invokevirtual 136, 3) := by decide +kernel
theorem dX4_pair_68 : decode cX4_pair 68 = .ok (.goto 9, 3) := by decide +kernel
theorem dX4_pair_71 : decode cX4_pair 71 = .ok (.aload_n 0, 1) := by decide +kernel
theorem dX4_pair_72 : decode cX4_pair 72 = .ok (.iload_n 2, 1) := by decide +kernel
theorem dX4_pair_73 : decode cX4_pair 73 = .ok (.iload_n 1, 1) := by decide +kernel
theorem dX4_pair_74 : decode cX4_pair 74 = .ok (.invokevirtual 158, 3) := by decide +kernel
theorem dX4_pair_77 : decode cX4_pair 77 = .ok (.ireturn, 1) := by decide +kernel
theorem dX4_holders_0 : decode cX4_holders 0 = .ok (.iconst 0, 1) := by decide +kernel
theorem dX4_holders_1 : decode cX4_holders 1 = .ok (.istore_n 3, 1) := by decide +kernel
theorem dX4_holders_2 : decode cX4_holders 2 = .ok (.iconst 0, 1) := by decide +kernel
theorem dX4_holders_3 : decode cX4_holders 3 = .ok (.istore 4, 2) := by decide +kernel
theorem dX4_holders_5 : decode cX4_holders 5 = .ok (.iload 4, 2) := by decide +kernel
theorem dX4_holders_7 : decode cX4_holders 7 = .ok (.aload_n 0, 1) := by decide +kernel
theorem dX4_holders_8 : decode cX4_holders 8 = .ok (.getfield 7, 3) := by decide +kernel
theorem dX4_holders_11 : decode cX4_holders 11 = .ok (.iconst 0, 1) := by decide +kernel
theorem dX4_holders_12 : decode cX4_holders 12 = .ok (.iaload, 1) := by decide +kernel
theorem dX4_holders_13 : decode cX4_holders 13 = .ok (.if_icmp .ge 28, 3) := by decide +kernel
theorem dX4_holders_16 : decode cX4_holders 16 = .ok (.iload_n 3, 1) := by decide +kernel
theorem dX4_holders_17 : decode cX4_holders 17 = .ok (.aload_n 0, 1) := by decide +kernel
theorem dX4_holders_18 : decode cX4_holders 18 = .ok (.getfield 7, 3) := by decide +kernel
theorem dX4_holders_21 : decode cX4_holders 21 = .ok (.iload_n 1, 1) := by decide +kernel
theorem dX4_holders_22 : decode cX4_holders 22 = .ok (.iload 4, 2) := by decide +kernel
theorem dX4_holders_24 : decode cX4_holders 24 = .ok (.iadd, 1) := by decide +kernel
theorem dX4_holders_25 : decode cX4_holders 25 = .ok (.iaload, 1) := by decide +kernel
theorem dX4_holders_26 : decode cX4_holders 26 = .ok (.iload_n 2, 1) := by decide +kernel
theorem dX4_holders_27 : decode cX4_holders 27 = .ok (.ishr, 1) := by decide +kernel
theorem dX4_holders_28 : decode cX4_holders 28 = .ok (.iconst 1, 1) := by decide +kernel
theorem dX4_holders_29 : decode cX4_holders 29 = .ok (.iand, 1) := by decide +kernel
theorem dX4_holders_30 : decode cX4_holders 30 = .ok (.iload 4, 2) := by decide +kernel
theorem dX4_holders_32 : decode cX4_holders 32 = .ok (.ishl, 1) := by decide +kernel
theorem dX4_holders_33 : decode cX4_holders 33 = .ok (.ior, 1) := by decide +kernel
theorem dX4_holders_34 : decode cX4_holders 34 = .ok (.istore_n 3, 1) := by decide +kernel
theorem dX4_holders_35 : decode cX4_holders 35 = .ok (.iinc 4 1, 3) := by decide +kernel
theorem dX4_holders_38 : decode cX4_holders 38 = .ok (.goto (-33), 3) := by decide +kernel
theorem dX4_holders_41 : decode cX4_holders 41 = .ok (.iload_n 3, 1) := by decide +kernel
theorem dX4_holders_42 : decode cX4_holders 42 = .ok (.ireturn, 1) := by decide +kernel
theorem dX4_write_0 : decode cX4_write 0 = .ok (.iload_n 1, 1) := by decide +kernel
theorem dX4_write_1 : decode cX4_write 1 = .ok (.iconst 0, 1) := by decide +kernel
theorem dX4_write_2 : decode cX4_write 2 = .ok (.aload_n 0, 1) := by decide +kernel
theorem dX4_write_3 : decode cX4_write 3 = .ok (.getfield 7, 3) := by decide +kernel
theorem dX4_write_6 : decode cX4_write 6 = .ok (.bipush 14, 2) := by decide +kernel
theorem dX4_write_8 : decode cX4_write 8 = .ok (.iaload, 1) := by decide +kernel
theorem dX4_write_9 : decode cX4_write 9 = .ok (.iconst 1, 1) := by decide +kernel
theorem dX4_write_10 : decode cX4_write 10 = .ok (.isub, 1) := by decide +kernel
theorem dX4_write_11 : decode cX4_write 11 = .ok (.invokestatic 63, 3) := by decide +kernel
theorem dX4_write_14 : decode cX4_write 14 = .ok (.ifCond .eq 12, 3) := by decide +kernel
theorem dX4_write_17 : decode cX4_write 17 = .ok (.iload_n 2, 1) := by decide +kernel
theorem dX4_write_18 : decode cX4_write 18 = .ok (.iconst 0, 1) := by decide +kernel
theorem dX4_write_19 : decode cX4_write 19 = .ok (.iconst 4, 1) := by decide +kernel
theorem dX4_write_20 : decode cX4_write 20 = .ok (.invokestatic 63, 3) := by decide +kernel
theorem dX4_write_23 : decode cX4_write 23 = .ok (.ifCond .ne 5, 3) := by decide +kernel
theorem dX4_write_26 : decode cX4_write 26 = .ok (.iconst (-1), 1) := by decide +kernel
theorem dX4_write_27 : decode cX4_write 27 = .ok (.ireturn, 1) := by decide +kernel
theorem dX4_write_28 : decode cX4_write 28 = .ok (.iload_n 2, 1) := by decide +kernel
theorem dX4_write_29 : decode cX4_write 29 = .ok (.iconst 3, 1) := by decide +kernel
theorem dX4_write_30 : decode cX4_write 30 = .ok (.if_icmp .ge 19, 3) := by decide +kernel
theorem dX4_write_33 : decode cX4_write 33 = .ok (.aload_n 0, 1) := by decide +kernel
theorem dX4_write_34 : decode cX4_write 34 = .ok (.getfield 7, 3) := by decide +kernel
theorem dX4_write_37 : decode cX4_write 37 = .ok (.bipush 15, 2) := by decide +kernel
theorem dX4_write_39 : decode cX4_write 39 = .ok (.iconst 3, 1) := by decide +kernel
theorem dX4_write_40 : decode cX4_write 40 = .ok (.iload_n 1, 1) := by decide +kernel
theorem dX4_write_41 : decode cX4_write 41 = .ok (.imul, 1) := by decide +kernel
theorem dX4_write_42 : decode cX4_write 42 = .ok (.iadd, 1) := by decide +kernel
theorem dX4_write_43 : decode cX4_write 43 = .ok (.iload_n 2, 1) := by decide +kernel
theorem dX4_write_44 : decode cX4_write 44 = .ok (.iadd, 1) := by decide +kernel
theorem dX4_write_45 : decode cX4_write 45 = .ok (.iaload, 1) := by decide +kernel
theorem dX4_write_46 : decode cX4_write 46 = .ok (.goto 20, 3) := by decide +kernel
theorem dX4_write_49 : decode cX4_write 49 = .ok (.aload_n 0, 1) := by decide +kernel
theorem dX4_write_50 : decode cX4_write 50 = .ok (.iload_n 2, 1) := by decide +kernel
theorem dX4_write_51 : decode cX4_write 51 = .ok (.iconst 3, 1) := by decide +kernel
theorem dX4_write_52 : decode cX4_write 52 = .ok (.if_icmp .ne 8, 3) := by decide +kernel
theorem dX4_write_55 : decode cX4_write 55 = .ok (.bipush 87, 2) := by decide +kernel
theorem dX4_write_57 : decode cX4_write 57 = .ok (.goto 5, 3) := by decide +kernel
theorem dX4_write_60 : decode cX4_write 60 = .ok (.bipush 91, 2) := by decide +kernel
theorem dX4_write_62 : decode cX4_write 62 = .ok (.iload_n 1, 1) := by decide +kernel
theorem dX4_write_63 : decode cX4_write 63 = .ok (.invokevirtual 173, 3) := by decide +kernel
theorem dX4_write_66 : decode cX4_write 66 = .ok (.ireturn, 1) := by decide +kernel
theorem dX4_costs_0 : decode cX4_costs 0 = .ok (.aload_n 0, 1) := by decide +kernel
theorem dX4_costs_1 : decode cX4_costs 1 = .ok (.iload_n 1, 1) := by decide +kernel
theorem dX4_costs_2 : decode cX4_costs 2 = .ok (.invokevirtual 118, 3) := by decide +kernel
theorem dX4_costs_5 : decode cX4_costs 5 = .ok (.ifCond .eq 14, 3) := by decide +kernel
theorem dX4_costs_8 : decode cX4_costs 8 = .ok (.iload_n 2, 1) := by decide +kernel
theorem dX4_costs_9 : decode cX4_costs 9 = .ok (.iconst 1, 1) := by decide +kernel
theorem dX4_costs_10 : decode cX4_costs 10 = .ok (.sipush 999, 3) := by decide +kernel
theorem dX4_costs_13 : decode cX4_costs 13 = .ok (.invokestatic 63, 3) := by decide +kernel
theorem dX4_costs_16 : decode cX4_costs 16 = .ok (.ifCond .ne 5, 3) := by decide +kernel
theorem dX4_costs_19 : decode cX4_costs 19 = .ok (.iconst (-1), 1) := by decide +kernel
theorem dX4_costs_20 : decode cX4_costs 20 = .ok (.ireturn, 1) := by decide +kernel
theorem dX4_costs_21 : decode cX4_costs 21 = .ok (.iconst 0, 1) := by decide +kernel
theorem dX4_costs_22 : decode cX4_costs 22 = .ok (.istore_n 3, 1) := by decide +kernel
theorem dX4_costs_23 : decode cX4_costs 23 = .ok (.iconst 0, 1) := by decide +kernel
theorem dX4_costs_24 : decode cX4_costs 24 = .ok (.istore 4, 2) := by decide +kernel
theorem dX4_costs_26 : decode cX4_costs 26 = .ok (.iload 4, 2) := by decide +kernel
theorem dX4_costs_28 : decode cX4_costs 28 = .ok (.aload_n 0, 1) := by decide +kernel
theorem dX4_costs_29 : decode cX4_costs 29 = .ok (.getfield 7, 3) := by decide +kernel
theorem dX4_costs_32 : decode cX4_costs 32 = .ok (.iconst 0, 1) := by decide +kernel
theorem dX4_costs_33 : decode cX4_costs 33 = .ok (.iaload, 1) := by decide +kernel
theorem dX4_costs_34 : decode cX4_costs 34 = .ok (.if_icmp .ge 34, 3) := by decide +kernel
theorem dX4_costs_37 : decode cX4_costs 37 = .ok (.iload_n 3, 1) := by decide +kernel
theorem dX4_costs_38 : decode cX4_costs 38 = .ok (.iload 4, 2) := by decide +kernel
theorem dX4_costs_40 : decode cX4_costs 40 = .ok (.iload_n 1, 1) := by decide +kernel
theorem dX4_costs_41 : decode cX4_costs 41 = .ok (.if_icmp .eq 18, 3) := by decide +kernel
theorem dX4_costs_44 : decode cX4_costs 44 = .ok (.aload_n 0, 1) := by decide +kernel
theorem dX4_costs_45 : decode cX4_costs 45 = .ok (.iload_n 1, 1) := by decide +kernel
theorem dX4_costs_46 : decode cX4_costs 46 = .ok (.iload 4, 2) := by decide +kernel
theorem dX4_costs_48 : decode cX4_costs 48 = .ok (.invokevirtual 158, 3) := by decide +kernel
theorem dX4_costs_51 : decode cX4_costs 51 = .ok (.iload_n 2, 1) := by decide +kernel
theorem dX4_costs_52 : decode cX4_costs 52 = .ok (.if_icmp .ge 7, 3) := by decide +kernel
theorem dX4_costs_55 : decode cX4_costs 55 = .ok (.iconst 1, 1) := by decide +kernel
theorem dX4_costs_56 : decode cX4_costs 56 = .ok (.goto 4, 3) := by decide +kernel
theorem dX4_costs_59 : decode cX4_costs 59 = .ok (.iconst 0, 1) := by decide +kernel
theorem dX4_costs_60 : decode cX4_costs 60 = .ok (.iadd, 1) := by decide +kernel
theorem dX4_costs_61 : decode cX4_costs 61 = .ok (.istore_n 3, 1) := by decide +kernel
theorem dX4_costs_62 : decode cX4_costs 62 = .ok (.iinc 4 1, 3) := by decide +kernel
theorem dX4_costs_65 : decode cX4_costs 65 = .ok (.goto (-39), 3) := by decide +kernel
theorem dX4_costs_68 : decode cX4_costs 68 = .ok (.iload_n 3, 1) := by decide +kernel
theorem dX4_costs_69 : decode cX4_costs 69 = .ok (.ireturn, 1) := by decide +kernel
theorem dX4_sees_0 : decode cX4_sees 0 = .ok (.iload_n 1, 1) := by decide +kernel
theorem dX4_sees_1 : decode cX4_sees 1 = .ok (.iconst 0, 1) := by decide +kernel
theorem dX4_sees_2 : decode cX4_sees 2 = .ok (.iconst 2, 1) := by decide +kernel
theorem dX4_sees_3 : decode cX4_sees 3 = .ok (.invokestatic 63, 3) := by decide +kernel
theorem dX4_sees_6 : decode cX4_sees 6 = .ok (.ifCond .eq 14, 3) := by decide +kernel
theorem dX4_sees_9 : decode cX4_sees 9 = .ok (.iload_n 2, 1) := by decide +kernel
theorem dX4_sees_10 : decode cX4_sees 10 = .ok (.iconst 0, 1) := by decide +kernel
theorem dX4_sees_11 : decode cX4_sees 11 = .ok (.sipush 999, 3) := by decide +kernel
theorem dX4_sees_14 : decode cX4_sees 14 = .ok (.invokestatic 63, 3) := by decide +kernel
theorem dX4_sees_17 : decode cX4_sees 17 = .ok (.ifCond .ne 5, 3) := by decide +kernel
theorem dX4_sees_20 : decode cX4_sees 20 = .ok (.iconst (-1), 1) := by decide +kernel
theorem dX4_sees_21 : decode cX4_sees 21 = .ok (.ireturn, 1) := by decide +kernel
theorem dX4_sees_22 : decode cX4_sees 22 = .ok (.aload_n 0, 1) := by decide +kernel
theorem dX4_sees_23 : decode cX4_sees 23 = .ok (.getfield 176, 3) := by decide +kernel
theorem dX4_sees_26 : decode cX4_sees 26 = .ok (.bipush 6, 2) := by decide +kernel
theorem dX4_sees_28 : decode cX4_sees 28 = .ok (.if_icmp .ne 6, 3) := by decide +kernel
theorem dX4_sees_31 : decode cX4_sees 31 = .ok (.bipush (-3), 2) := by decide +kernel
theorem dX4_sees_33 : decode cX4_sees 33 = .ok (.ireturn, 1) := by decide +kernel
theorem dX4_sees_34 : decode cX4_sees 34 = .ok (.aload_n 0, 1) := by decide +kernel
theorem dX4_sees_35 : decode cX4_sees 35 = .ok (.getfield 32, 3) := by decide +kernel
theorem dX4_sees_38 : decode cX4_sees 38 = .ok (.aload_n 0, 1) := by decide +kernel
theorem dX4_sees_39 : decode cX4_sees 39 = .ok (.getfield 176, 3) := by decide +kernel
theorem dX4_sees_42 : decode cX4_sees 42 = .ok (.iload_n 1, 1) := by decide +kernel
theorem dX4_sees_43 : decode cX4_sees 43 = .ok (.iastore, 1) := by decide +kernel
theorem dX4_sees_44 : decode cX4_sees 44 = .ok (.aload_n 0, 1) := by decide +kernel
theorem dX4_sees_45 : decode cX4_sees 45 = .ok (.getfield 35, 3) := by decide +kernel
theorem dX4_sees_48 : decode cX4_sees 48 = .ok (.aload_n 0, 1) := by decide +kernel
theorem dX4_sees_49 : decode cX4_sees 49 = .ok (.getfield 176, 3) := by decide +kernel
theorem dX4_sees_52 : decode cX4_sees 52 = .ok (.iload_n 2, 1) := by decide +kernel
theorem dX4_sees_53 : decode cX4_sees 53 = .ok (.iastore, 1) := by decide +kernel
theorem dX4_sees_54 : decode cX4_sees 54 = .ok (.aload_n 0, 1) := by decide +kernel
theorem dX4_sees_55 : decode cX4_sees 55 = .ok (.dup, 1) := by decide +kernel
theorem dX4_sees_56 : decode cX4_sees 56 = .ok (.getfield 176, 3) := by decide +kernel
theorem dX4_sees_59 : decode cX4_sees 59 = .ok (.iconst 1, 1) := by decide +kernel
theorem dX4_sees_60 : decode cX4_sees 60 = .ok (.iadd, 1) := by decide +kernel
theorem dX4_sees_61 : decode cX4_sees 61 = .ok (.putfield 176, 3) := by decide +kernel
theorem dX4_sees_64 : decode cX4_sees 64 = .ok (.aload_n 0, 1) := by decide +kernel
theorem dX4_sees_65 : decode cX4_sees 65 = .ok (.getfield 176, 3) := by decide +kernel
theorem dX4_sees_68 : decode cX4_sees 68 = .ok (.ireturn, 1) := by decide +kernel
theorem dX4_forget_0 : decode cX4_forget 0 = .ok (.aload_n 0, 1) := by decide +kernel
theorem dX4_forget_1 : decode cX4_forget 1 = .ok (.getfield 176, 3) := by decide +kernel
theorem dX4_forget_4 : decode cX4_forget 4 = .ok (.istore_n 1, 1) := by decide +kernel
theorem dX4_forget_5 : decode cX4_forget 5 = .ok (.aload_n 0, 1) := by decide +kernel
theorem dX4_forget_6 : decode cX4_forget 6 = .ok (.iconst 0, 1) := by decide +kernel
theorem dX4_forget_7 : decode cX4_forget 7 = .ok (.putfield 176, 3) := by decide +kernel
theorem dX4_forget_10 : decode cX4_forget 10 = .ok (.iload_n 1, 1) := by decide +kernel
theorem dX4_forget_11 : decode cX4_forget 11 = .ok (.ireturn, 1) := by decide +kernel
theorem dX4_property_0 : decode cX4_property 0 = .ok (.iload_n 2, 1) := by decide +kernel
theorem dX4_property_1 : decode cX4_property 1 = .ok (.ifCond .ne 19, 3) := by decide +kernel
theorem dX4_property_4 : decode cX4_property 4 = .ok (.aload_n 0, 1) := by decide +kernel
theorem dX4_property_5 : decode cX4_property 5 = .ok (.aload_n 0, 1) := by decide +kernel
theorem dX4_property_6 : decode cX4_property 6 = .ok (.getfield 7, 3) := by decide +kernel
theorem dX4_property_9 : decode cX4_property 9 = .ok (.bipush 87, 2) := by decide +kernel
theorem dX4_property_11 : decode cX4_property 11 = .ok (.iload_n 1, 1) := by decide +kernel
theorem dX4_property_12 : decode cX4_property 12 = .ok (.iadd, 1) := by decide +kernel
theorem dX4_property_13 : decode cX4_property 13 = .ok (.iaload, 1) := by decide +kernel
theorem dX4_property_14 : decode cX4_property 14 = .ok (.invokevirtual 129, 3) := by decide +kernel
theorem dX4_property_17 : decode cX4_property 17 = .ok (.goto 21, 3) := by decide +kernel
theorem dX4_property_20 : decode cX4_property 20 = .ok (.iload_n 2, 1) := by decide +kernel
theorem dX4_property_21 : decode cX4_property 21 = .ok (.iconst 1, 1) := by decide +kernel
theorem dX4_property_22 : decode cX4_property 22 = .ok (.if_icmp .ne 11, 3) := by decide +kernel
theorem dX4_property_25 : decode cX4_property 25 = .ok (.aload_n 0, 1) := by decide +kernel
theorem dX4_property_26 : decode cX4_property 26 = .ok (.iload_n 1, 1) := by decide +kernel
theorem dX4_property_27 : decode cX4_property 27 = .ok (.invokevirtual 152, 3) := by decide +kernel
theorem dX4_property_30 : decode cX4_property 30 = .ok (.goto 8, 3) := by decide +kernel
theorem dX4_property_33 : decode cX4_property 33 = .ok (.aload_n 0, 1) := by decide +kernel
theorem dX4_property_34 : decode cX4_property 34 = .ok (.iload_n 1, 1) := by decide +kernel
theorem dX4_property_35 : decode cX4_property 35 = .ok (.invokevirtual 167, 3) := by decide +kernel
theorem dX4_property_38 : decode cX4_property 38 = .ok (.ireturn, 1) := by decide +kernel
theorem dX4_candidates_0 : decode cX4_candidates 0 = .ok (.iconst 0, 1) := by decide +kernel
theorem dX4_candidates_1 : decode cX4_candidates 1 = .ok (.istore_n 1, 1) := by decide +kernel
theorem dX4_candidates_2 : decode cX4_candidates 2 = .ok (.iconst 0, 1) := by decide +kernel
theorem dX4_candidates_3 : decode cX4_candidates 3 = .ok (.istore_n 2, 1) := by decide +kernel
theorem dX4_candidates_4 : decode cX4_candidates 4 = .ok (.iload_n 2, 1) := by decide +kernel
theorem dX4_candidates_5 : decode cX4_candidates 5 = .ok (.aload_n 0, 1) := by decide +kernel
theorem dX4_candidates_6 : decode cX4_candidates 6 = .ok (.getfield 7, 3) := by decide +kernel
theorem dX4_candidates_9 : decode cX4_candidates 9 = .ok (.iconst 0, 1) := by decide +kernel
theorem dX4_candidates_10 : decode cX4_candidates 10 = .ok (.iaload, 1) := by decide +kernel
theorem dX4_candidates_11 : decode cX4_candidates 11 = .ok (.if_icmp .ge 75, 3) := by decide +kernel
theorem dX4_candidates_14 : decode cX4_candidates 14 = .ok (.iconst 1, 1) := by decide +kernel
theorem dX4_candidates_15 : decode cX4_candidates 15 = .ok (.istore_n 3, 1) := by decide +kernel
theorem dX4_candidates_16 : decode cX4_candidates 16 = .ok (.iconst 0, 1) := by decide +kernel
theorem dX4_candidates_17 : decode cX4_candidates 17 = .ok (.istore 4, 2) := by decide +kernel
theorem dX4_candidates_19 : decode cX4_candidates 19 = .ok (.iload 4, 2) := by decide +kernel
theorem dX4_candidates_21 : decode cX4_candidates 21 = .ok (.aload_n 0, 1) := by decide +kernel
theorem dX4_candidates_22 : decode cX4_candidates 22 = .ok (.getfield 176, 3) := by decide +kernel
theorem dX4_candidates_25 : decode cX4_candidates 25 = .ok (.if_icmp .ge 41, 3) := by decide +kernel
theorem dX4_candidates_28 : decode cX4_candidates 28 = .ok (.iload_n 3, 1) := by decide +kernel
theorem dX4_candidates_29 : decode cX4_candidates 29 = .ok (.ifCond .eq 29, 3) := by decide +kernel
theorem dX4_candidates_32 : decode cX4_candidates 32 = .ok (.aload_n 0, 1) := by decide +kernel
theorem dX4_candidates_33 : decode cX4_candidates 33 = .ok (.iload_n 2, 1) := by decide +kernel
theorem dX4_candidates_34 : decode cX4_candidates 34 = .ok (.aload_n 0, 1) := by decide +kernel
theorem dX4_candidates_35 : decode cX4_candidates 35 = .ok (.getfield 32, 3) := by decide +kernel
theorem dX4_candidates_38 : decode cX4_candidates 38 = .ok (.iload 4, 2) := by decide +kernel
theorem dX4_candidates_40 : decode cX4_candidates 40 = .ok (.iaload, 1) := by decide +kernel
theorem dX4_candidates_41 : decode cX4_candidates 41 = .ok (.invokevirtual 179, 3) := by decide +kernel
theorem dX4_candidates_44 : decode cX4_candidates 44 = .ok (.aload_n 0, 1) := by decide +kernel
theorem dX4_candidates_45 : decode cX4_candidates 45 = .ok (.getfield 35, 3) := by decide +kernel
theorem dX4_candidates_48 : decode cX4_candidates 48 = .ok (.iload 4, 2) := by decide +kernel
theorem dX4_candidates_50 : decode cX4_candidates 50 = .ok (.iaload, 1) := by decide +kernel
theorem dX4_candidates_51 : decode cX4_candidates 51 = .ok (.if_icmp .ne 7, 3) := by decide +kernel
theorem dX4_candidates_54 : decode cX4_candidates 54 = .ok (.iconst 1, 1) := by decide +kernel
theorem dX4_candidates_55 : decode cX4_candidates 55 = .ok (.goto 4, 3) := by decide +kernel
theorem dX4_candidates_58 : decode cX4_candidates 58 = .ok (.iconst 0, 1) := by decide +kernel
theorem dX4_candidates_59 : decode cX4_candidates 59 = .ok (.istore_n 3, 1) := by decide +kernel
theorem dX4_candidates_60 : decode cX4_candidates 60 = .ok (.iinc 4 1, 3) := by decide +kernel
theorem dX4_candidates_63 : decode cX4_candidates 63 = .ok (.goto (-44), 3) := by decide +kernel
theorem dX4_candidates_66 : decode cX4_candidates 66 = .ok (.iload_n 1, 1) := by decide +kernel
theorem dX4_candidates_67 : decode cX4_candidates 67 = .ok (.iload_n 3, 1) := by decide +kernel
theorem dX4_candidates_68 : decode cX4_candidates 68 = .ok (.ifCond .eq 9, 3) := by decide +kernel
theorem dX4_candidates_71 : decode cX4_candidates 71 = .ok (.iconst 1, 1) := by decide +kernel
theorem dX4_candidates_72 : decode cX4_candidates 72 = .ok (.iload_n 2, 1) := by decide +kernel
theorem dX4_candidates_73 : decode cX4_candidates 73 = .ok (.ishl, 1) := by decide +kernel
theorem dX4_candidates_74 : decode cX4_candidates 74 = .ok (.goto 4, 3) := by decide +kernel
theorem dX4_candidates_77 : decode cX4_candidates 77 = .ok (.iconst 0, 1) := by decide +kernel
theorem dX4_candidates_78 : decode cX4_candidates 78 = .ok (.ior, 1) := by decide +kernel
theorem dX4_candidates_79 : decode cX4_candidates 79 = .ok (.istore_n 1, 1) := by decide +kernel
theorem dX4_candidates_80 : decode cX4_candidates 80 = .ok (.iinc 2 1, 3) := by decide +kernel
theorem dX4_candidates_83 : decode cX4_candidates 83 = .ok (.goto (-79), 3) := by decide +kernel
theorem dX4_candidates_86 : decode cX4_candidates 86 = .ok (.iload_n 1, 1) := by decide +kernel
theorem dX4_candidates_87 : decode cX4_candidates 87 = .ok (.ireturn, 1) := by decide +kernel
theorem dX4_which_0 : decode cX4_which 0 = .ok (.aload_n 0, 1) := by decide +kernel
theorem dX4_which_1 : decode cX4_which 1 = .ok (.invokevirtual 182, 3) := by decide +kernel
theorem dX4_which_4 : decode cX4_which 4 = .ok (.ireturn, 1) := by decide +kernel
theorem dX4_largestGroup_0 : decode cX4_largestGroup 0 = .ok (.iconst 0, 1) := by decide +kernel
theorem dX4_largestGroup_1 : decode cX4_largestGroup 1 = .ok (.istore_n 3, 1) := by decide +kernel
theorem dX4_largestGroup_2 : decode cX4_largestGroup 2 = .ok (.iconst 0, 1) := by decide +kernel
theorem dX4_largestGroup_3 : decode cX4_largestGroup 3 = .ok (.istore 4, 2) := by decide +kernel
theorem dX4_largestGroup_5 : decode cX4_largestGroup 5 = .ok (.iload 4, 2) := by decide +kernel
theorem dX4_largestGroup_7 : decode cX4_largestGroup 7 = .ok (.aload_n 0, 1) := by decide +kernel
theorem dX4_largestGroup_8 : decode cX4_largestGroup 8 = .ok (.getfield 7, 3) := by decide +kernel
theorem dX4_largestGroup_11 : decode cX4_largestGroup 11 = .ok (.iconst 0, 1) := by decide +kernel
theorem dX4_largestGroup_12 : decode cX4_largestGroup 12 = .ok (.iaload, 1) := by decide +kernel
theorem dX4_largestGroup_13 : decode cX4_largestGroup 13 = .ok (.if_icmp .ge 104, 3) := by decide +kernel
theorem dX4_largestGroup_16 : decode cX4_largestGroup 16 = .ok (.iconst 0, 1) := by decide +kernel
theorem dX4_largestGroup_17 : decode cX4_largestGroup 17 = .ok (.istore 5, 2) := by decide +kernel
theorem dX4_largestGroup_19 : decode cX4_largestGroup 19 = .ok (.iconst 0, 1) := by decide +kernel
theorem dX4_largestGroup_20 : decode cX4_largestGroup 20 = .ok (.istore 6, 2) := by decide +kernel
theorem dX4_largestGroup_22 : decode cX4_largestGroup 22 = .ok (.iload 6, 2) := by decide +kernel
theorem dX4_largestGroup_24 : decode cX4_largestGroup 24 = .ok (.aload_n 0, 1) := by decide +kernel
theorem dX4_largestGroup_25 : decode cX4_largestGroup 25 = .ok (.getfield 7, 3) := by decide +kernel
theorem dX4_largestGroup_28 : decode cX4_largestGroup 28 = .ok (.iconst 0, 1) := by decide +kernel
theorem dX4_largestGroup_29 : decode cX4_largestGroup 29 = .ok (.iaload, 1) := by decide +kernel
theorem dX4_largestGroup_30 : decode cX4_largestGroup 30 = .ok (.if_icmp .ge 68, 3) := by decide +kernel
theorem dX4_largestGroup_33 : decode cX4_largestGroup 33 = .ok (.iload_n 1, 1) := by decide +kernel
theorem dX4_largestGroup_34 : decode cX4_largestGroup 34 = .ok (.iload 4, 2) := by decide +kernel
theorem dX4_largestGroup_36 : decode cX4_largestGroup 36 = .ok (.ishr, 1) := by decide +kernel
theorem dX4_largestGroup_37 : decode cX4_largestGroup 37 = .ok (.iconst 1, 1) := by decide +kernel
theorem dX4_largestGroup_38 : decode cX4_largestGroup 38 = .ok (.iand, 1) := by decide +kernel
theorem dX4_largestGroup_39 : decode cX4_largestGroup 39 = .ok (.iconst 1, 1) := by decide +kernel
theorem dX4_largestGroup_40 : decode cX4_largestGroup 40 = .ok (.if_icmp .ne 17, 3) := by decide +kernel
theorem dX4_largestGroup_43 : decode cX4_largestGroup 43 = .ok (.iload_n 1, 1) := by decide +kernel
theorem dX4_largestGroup_44 : decode cX4_largestGroup 44 = .ok (.iload 6, 2) := by decide +kernel
theorem dX4_largestGroup_46 : decode cX4_largestGroup 46 = .ok (.ishr, 1) := by decide +kernel
theorem dX4_largestGroup_47 : decode cX4_largestGroup 47 = .ok (.iconst 1, 1) := by decide +kernel
theorem dX4_largestGroup_48 : decode cX4_largestGroup 48 = .ok (.iand, 1) := by decide +kernel
theorem dX4_largestGroup_49 : decode cX4_largestGroup 49 = .ok (.iconst 1, 1) := by decide +kernel
theorem dX4_largestGroup_50 : decode cX4_largestGroup 50 = .ok (.if_icmp .ne 7, 3) := by decide +kernel
theorem dX4_largestGroup_53 : decode cX4_largestGroup 53 = .ok (.iconst 1, 1) := by decide +kernel
theorem dX4_largestGroup_54 : decode cX4_largestGroup 54 = .ok (.goto 4, 3) := by decide +kernel
theorem dX4_largestGroup_57 : decode cX4_largestGroup 57 = .ok (.iconst 0, 1) := by decide +kernel
theorem dX4_largestGroup_58 : decode cX4_largestGroup 58 = .ok (.istore 7, 2) := by decide +kernel
theorem dX4_largestGroup_60 : decode cX4_largestGroup 60 = .ok (.iload 5, 2) := by decide +kernel
theorem dX4_largestGroup_62 : decode cX4_largestGroup 62 = .ok (.iload 7, 2) := by decide +kernel
theorem dX4_largestGroup_64 : decode cX4_largestGroup 64 = .ok (.ifCond .eq 24, 3) := by decide +kernel
theorem dX4_largestGroup_67 : decode cX4_largestGroup 67 = .ok (.aload_n 0, 1) := by decide +kernel
theorem dX4_largestGroup_68 : decode cX4_largestGroup 68 = .ok (.iload 4, 2) := by decide +kernel
theorem dX4_largestGroup_70 : decode cX4_largestGroup 70 = .ok (.iload_n 2, 1) := by decide +kernel
theorem dX4_largestGroup_71 : decode cX4_largestGroup 71 = .ok (.invokevirtual 179, 3) := by decide +kernel
theorem dX4_largestGroup_74 : decode cX4_largestGroup 74 = .ok (.aload_n 0, 1) := by decide +kernel
theorem dX4_largestGroup_75 : decode cX4_largestGroup 75 = .ok (.iload 6, 2) := by decide +kernel
theorem dX4_largestGroup_77 : decode cX4_largestGroup 77 = .ok (.iload_n 2, 1) := by decide +kernel
theorem dX4_largestGroup_78 : decode cX4_largestGroup 78 = .ok (.invokevirtual 179, 3) := by decide +kernel
theorem dX4_largestGroup_81 : decode cX4_largestGroup 81 = .ok (.if_icmp .ne 7, 3) := by decide +kernel
theorem dX4_largestGroup_84 : decode cX4_largestGroup 84 = .ok (.iconst 1, 1) := by decide +kernel
theorem dX4_largestGroup_85 : decode cX4_largestGroup 85 = .ok (.goto 4, 3) := by decide +kernel
theorem dX4_largestGroup_88 : decode cX4_largestGroup 88 = .ok (.iconst 0, 1) := by decide +kernel
theorem dX4_largestGroup_89 : decode cX4_largestGroup 89 = .ok (.iadd, 1) := by decide +kernel
theorem dX4_largestGroup_90 : decode cX4_largestGroup 90 = .ok (.istore 5, 2) := by decide +kernel
theorem dX4_largestGroup_92 : decode cX4_largestGroup 92 = .ok (.iinc 6 1, 3) := by decide +kernel
theorem dX4_largestGroup_95 : decode cX4_largestGroup 95 = .ok (.goto (-73), 3) := by decide +kernel
theorem dX4_largestGroup_98 : decode cX4_largestGroup 98 = .ok (.iload 5, 2) := by decide +kernel
theorem dX4_largestGroup_100 : decode cX4_largestGroup 100 = .ok (.iload_n 3, 1) := by decide +kernel
theorem dX4_largestGroup_101 : decode cX4_largestGroup 101 = .ok (.if_icmp .le 8, 3) := by decide +kernel
theorem dX4_largestGroup_104 : decode cX4_largestGroup 104 = .ok (.iload 5, 2) := by decide +kernel
theorem dX4_largestGroup_106 : decode cX4_largestGroup 106 = .ok (.goto 4, 3) := by decide +kernel
theorem dX4_largestGroup_109 : decode cX4_largestGroup 109 = .ok (.iload_n 3, 1) := by decide +kernel
theorem dX4_largestGroup_110 : decode cX4_largestGroup 110 = .ok (.istore_n 3, 1) := by decide +kernel
theorem dX4_largestGroup_111 : decode cX4_largestGroup 111 = .ok (.iinc 4 1, 3) := by decide +kernel
theorem dX4_largestGroup_114 : decode cX4_largestGroup 114 = .ok (.goto (-109), 3) := by decide +kernel
theorem dX4_largestGroup_117 : decode cX4_largestGroup 117 = .ok (.iload_n 3, 1) := by decide +kernel
theorem dX4_largestGroup_118 : decode cX4_largestGroup 118 = .ok (.ireturn, 1) := by decide +kernel
theorem dX4_ask_0 : decode cX4_ask 0 = .ok (.aload_n 0, 1) := by decide +kernel
theorem dX4_ask_1 : decode cX4_ask 1 = .ok (.invokevirtual 182, 3) := by decide +kernel
theorem dX4_ask_4 : decode cX4_ask 4 = .ok (.istore_n 1, 1) := by decide +kernel
theorem dX4_ask_5 : decode cX4_ask 5 = .ok (.iload_n 1, 1) := by decide +kernel
theorem dX4_ask_6 : decode cX4_ask 6 = .ok (.invokestatic 139, 3) := by decide +kernel
theorem dX4_ask_9 : decode cX4_ask 9 = .ok (.iconst 2, 1) := by decide +kernel
theorem dX4_ask_10 : decode cX4_ask 10 = .ok (.if_icmp .ge 6, 3) := by decide +kernel
theorem dX4_ask_13 : decode cX4_ask 13 = .ok (.bipush (-9), 2) := by decide +kernel
theorem dX4_ask_15 : decode cX4_ask 15 = .ok (.ireturn, 1) := by decide +kernel
theorem dX4_ask_16 : decode cX4_ask 16 = .ok (.iconst 0, 1) := by decide +kernel
theorem dX4_ask_17 : decode cX4_ask 17 = .ok (.istore_n 2, 1) := by decide +kernel
theorem dX4_ask_18 : decode cX4_ask 18 = .ok (.aload_n 0, 1) := by decide +kernel
theorem dX4_ask_19 : decode cX4_ask 19 = .ok (.iload_n 1, 1) := by decide +kernel
theorem dX4_ask_20 : decode cX4_ask 20 = .ok (.iconst 0, 1) := by decide +kernel
theorem dX4_ask_21 : decode cX4_ask 21 = .ok (.invokevirtual 185, 3) := by decide +kernel
theorem dX4_ask_24 : decode cX4_ask 24 = .ok (.istore_n 3, 1) := by decide +kernel
theorem dX4_ask_25 : decode cX4_ask 25 = .ok (.iconst 1, 1) := by decide +kernel
theorem dX4_ask_26 : decode cX4_ask 26 = .ok (.istore 4, 2) := by decide +kernel
theorem dX4_ask_28 : decode cX4_ask 28 = .ok (.iload 4, 2) := by decide +kernel
theorem dX4_ask_30 : decode cX4_ask 30 = .ok (.iconst 3, 1) := by decide +kernel
theorem dX4_ask_31 : decode cX4_ask 31 = .ok (.if_icmp .ge 44, 3) := by decide +kernel
theorem dX4_ask_34 : decode cX4_ask 34 = .ok (.aload_n 0, 1) := by decide +kernel
theorem dX4_ask_35 : decode cX4_ask 35 = .ok (.iload_n 1, 1) := by decide +kernel
theorem dX4_ask_36 : decode cX4_ask 36 = .ok (.iload 4, 2) := by decide +kernel
theorem dX4_ask_38 : decode cX4_ask 38 = .ok (.invokevirtual 185, 3) := by decide +kernel
theorem dX4_ask_41 : decode cX4_ask 41 = .ok (.istore 5, 2) := by decide +kernel
theorem dX4_ask_43 : decode cX4_ask 43 = .ok (.iload 5, 2) := by decide +kernel
theorem dX4_ask_45 : decode cX4_ask 45 = .ok (.iload_n 3, 1) := by decide +kernel
theorem dX4_ask_46 : decode cX4_ask 46 = .ok (.if_icmp .ge 8, 3) := by decide +kernel
theorem dX4_ask_49 : decode cX4_ask 49 = .ok (.iload 4, 2) := by decide +kernel
theorem dX4_ask_51 : decode cX4_ask 51 = .ok (.goto 4, 3) := by decide +kernel
theorem dX4_ask_54 : decode cX4_ask 54 = .ok (.iload_n 2, 1) := by decide +kernel
theorem dX4_ask_55 : decode cX4_ask 55 = .ok (.istore_n 2, 1) := by decide +kernel
theorem dX4_ask_56 : decode cX4_ask 56 = .ok (.iload 5, 2) := by decide +kernel
theorem dX4_ask_58 : decode cX4_ask 58 = .ok (.iload_n 3, 1) := by decide +kernel
theorem dX4_ask_59 : decode cX4_ask 59 = .ok (.if_icmp .ge 8, 3) := by decide +kernel
theorem dX4_ask_62 : decode cX4_ask 62 = .ok (.iload 5, 2) := by decide +kernel
theorem dX4_ask_64 : decode cX4_ask 64 = .ok (.goto 4, 3) := by decide +kernel
theorem dX4_ask_67 : decode cX4_ask 67 = .ok (.iload_n 3, 1) := by decide +kernel
theorem dX4_ask_68 : decode cX4_ask 68 = .ok (.istore_n 3, 1) := by decide +kernel
theorem dX4_ask_69 : decode cX4_ask 69 = .ok (.iinc 4 1, 3) := by decide +kernel
theorem dX4_ask_72 : decode cX4_ask 72 = .ok (.goto (-44), 3) := by decide +kernel
theorem dX4_ask_75 : decode cX4_ask 75 = .ok (.iload_n 2, 1) := by decide +kernel
theorem dX4_ask_76 : decode cX4_ask 76 = .ok (.ireturn, 1) := by decide +kernel
theorem dX4_keep_0 : decode cX4_keep 0 = .ok (.iload_n 1, 1) := by decide +kernel
theorem dX4_keep_1 : decode cX4_keep 1 = .ok (.iconst 0, 1) := by decide +kernel
theorem dX4_keep_2 : decode cX4_keep 2 = .ok (.iconst 1, 1) := by decide +kernel
theorem dX4_keep_3 : decode cX4_keep 3 = .ok (.invokestatic 63, 3) := by decide +kernel
theorem dX4_keep_6 : decode cX4_keep 6 = .ok (.ifCond .ne 5, 3) := by decide +kernel
theorem dX4_keep_9 : decode cX4_keep 9 = .ok (.iconst (-1), 1) := by decide +kernel
theorem dX4_keep_10 : decode cX4_keep 10 = .ok (.ireturn, 1) := by decide +kernel
theorem dX4_keep_11 : decode cX4_keep 11 = .ok (.aload_n 0, 1) := by decide +kernel
theorem dX4_keep_12 : decode cX4_keep 12 = .ok (.getfield 7, 3) := by decide +kernel
theorem dX4_keep_15 : decode cX4_keep 15 = .ok (.iconst 0, 1) := by decide +kernel
theorem dX4_keep_16 : decode cX4_keep 16 = .ok (.aload_n 0, 1) := by decide +kernel
theorem dX4_keep_17 : decode cX4_keep 17 = .ok (.getfield 22, 3) := by decide +kernel
theorem dX4_keep_20 : decode cX4_keep 20 = .ok (.bipush 127, 2) := by decide +kernel
theorem dX4_keep_22 : decode cX4_keep 22 = .ok (.iload_n 1, 1) := by decide +kernel
theorem dX4_keep_23 : decode cX4_keep 23 = .ok (.imul, 1) := by decide +kernel
theorem dX4_keep_24 : decode cX4_keep 24 = .ok (.invokestatic 45, 3) := by decide +kernel
theorem dX4_keep_27 : decode cX4_keep 27 = .ok (.aload_n 0, 1) := by decide +kernel
theorem dX4_keep_28 : decode cX4_keep 28 = .ok (.getfield 25, 3) := by decide +kernel
theorem dX4_keep_31 : decode cX4_keep 31 = .ok (.iload_n 1, 1) := by decide +kernel
theorem dX4_keep_32 : decode cX4_keep 32 = .ok (.iconst 1, 1) := by decide +kernel
theorem dX4_keep_33 : decode cX4_keep 33 = .ok (.bastore, 1) := by decide +kernel
theorem dX4_keep_34 : decode cX4_keep 34 = .ok (.aload_n 0, 1) := by decide +kernel
theorem dX4_keep_35 : decode cX4_keep 35 = .ok (.getfield 7, 3) := by decide +kernel
theorem dX4_keep_38 : decode cX4_keep 38 = .ok (.iconst 1, 1) := by decide +kernel
theorem dX4_keep_39 : decode cX4_keep 39 = .ok (.iaload, 1) := by decide +kernel
theorem dX4_keep_40 : decode cX4_keep 40 = .ok (.ireturn, 1) := by decide +kernel
theorem dX4_back_0 : decode cX4_back 0 = .ok (.iload_n 1, 1) := by decide +kernel
theorem dX4_back_1 : decode cX4_back 1 = .ok (.iconst 0, 1) := by decide +kernel
theorem dX4_back_2 : decode cX4_back 2 = .ok (.iconst 1, 1) := by decide +kernel
theorem dX4_back_3 : decode cX4_back 3 = .ok (.invokestatic 63, 3) := by decide +kernel
theorem dX4_back_6 : decode cX4_back 6 = .ok (.ifCond .ne 5, 3) := by decide +kernel
theorem dX4_back_9 : decode cX4_back 9 = .ok (.iconst (-1), 1) := by decide +kernel
theorem dX4_back_10 : decode cX4_back 10 = .ok (.ireturn, 1) := by decide +kernel
theorem dX4_back_11 : decode cX4_back 11 = .ok (.aload_n 0, 1) := by decide +kernel
theorem dX4_back_12 : decode cX4_back 12 = .ok (.getfield 25, 3) := by decide +kernel
theorem dX4_back_15 : decode cX4_back 15 = .ok (.iload_n 1, 1) := by decide +kernel
theorem dX4_back_16 : decode cX4_back 16 = .ok (.baload, 1) := by decide +kernel
theorem dX4_back_17 : decode cX4_back 17 = .ok (.ifCond .ne 6, 3) := by decide +kernel
theorem dX4_back_20 : decode cX4_back 20 = .ok (.bipush (-2), 2) := by decide +kernel
theorem dX4_back_22 : decode cX4_back 22 = .ok (.ireturn, 1) := by decide +kernel
theorem dX4_back_23 : decode cX4_back 23 = .ok (.aload_n 0, 1) := by decide +kernel
theorem dX4_back_24 : decode cX4_back 24 = .ok (.getfield 22, 3) := by decide +kernel
theorem dX4_back_27 : decode cX4_back 27 = .ok (.bipush 127, 2) := by decide +kernel
theorem dX4_back_29 : decode cX4_back 29 = .ok (.iload_n 1, 1) := by decide +kernel
theorem dX4_back_30 : decode cX4_back 30 = .ok (.imul, 1) := by decide +kernel
theorem dX4_back_31 : decode cX4_back 31 = .ok (.aload_n 0, 1) := by decide +kernel
theorem dX4_back_32 : decode cX4_back 32 = .ok (.getfield 7, 3) := by decide +kernel
theorem dX4_back_35 : decode cX4_back 35 = .ok (.iconst 0, 1) := by decide +kernel
theorem dX4_back_36 : decode cX4_back 36 = .ok (.invokestatic 45, 3) := by decide +kernel
theorem dX4_back_39 : decode cX4_back 39 = .ok (.aload_n 0, 1) := by decide +kernel
theorem dX4_back_40 : decode cX4_back 40 = .ok (.iconst 0, 1) := by decide +kernel
theorem dX4_back_41 : decode cX4_back 41 = .ok (.putfield 49, 3) := by decide +kernel
theorem dX4_back_44 : decode cX4_back 44 = .ok (.aload_n 0, 1) := by decide +kernel
theorem dX4_back_45 : decode cX4_back 45 = .ok (.getfield 7, 3) := by decide +kernel
theorem dX4_back_48 : decode cX4_back 48 = .ok (.iconst 1, 1) := by decide +kernel
theorem dX4_back_49 : decode cX4_back 49 = .ok (.iaload, 1) := by decide +kernel
theorem dX4_back_50 : decode cX4_back 50 = .ok (.ireturn, 1) := by decide +kernel
theorem dX4_fullCopies_0 : decode cX4_fullCopies 0 = .ok (.iconst 0, 1) := by decide +kernel
theorem dX4_fullCopies_1 : decode cX4_fullCopies 1 = .ok (.istore_n 1, 1) := by decide +kernel
theorem dX4_fullCopies_2 : decode cX4_fullCopies 2 = .ok (.iconst 0, 1) := by decide +kernel
theorem dX4_fullCopies_3 : decode cX4_fullCopies 3 = .ok (.istore_n 2, 1) := by decide +kernel
theorem dX4_fullCopies_4 : decode cX4_fullCopies 4 = .ok (.iload_n 2, 1) := by decide +kernel
theorem dX4_fullCopies_5 : decode cX4_fullCopies 5 = .ok (.aload_n 0, 1) := by decide +kernel
theorem dX4_fullCopies_6 : decode cX4_fullCopies 6 = .ok (.getfield 7, 3) := by decide +kernel
theorem dX4_fullCopies_9 : decode cX4_fullCopies 9 = .ok (.iconst 0, 1) := by decide +kernel
theorem dX4_fullCopies_10 : decode cX4_fullCopies 10 = .ok (.iaload, 1) := by decide +kernel
theorem dX4_fullCopies_11 : decode cX4_fullCopies 11 = .ok (.if_icmp .ge 42, 3) := by decide +kernel
theorem dX4_fullCopies_14 : decode cX4_fullCopies 14 = .ok (.iload_n 1, 1) := by decide +kernel
theorem dX4_fullCopies_15 : decode cX4_fullCopies 15 = .ok (.aload_n 0, 1) := by decide +kernel
theorem dX4_fullCopies_16 : decode cX4_fullCopies 16 = .ok (.getfield 7, 3) := by decide +kernel
theorem dX4_fullCopies_19 : decode cX4_fullCopies 19 = .ok (.bipush 87, 2) := by decide +kernel
theorem dX4_fullCopies_21 : decode cX4_fullCopies 21 = .ok (.iload_n 2, 1) := by decide +kernel
theorem dX4_fullCopies_22 : decode cX4_fullCopies 22 = .ok (.iadd, 1) := by decide +kernel
theorem dX4_fullCopies_23 : decode cX4_fullCopies 23 = .ok (.iaload, 1) := by decide +kernel
theorem dX4_fullCopies_24 : decode cX4_fullCopies 24 = .ok (.iconst 1, 1) := by decide +kernel
theorem dX4_fullCopies_25 : decode cX4_fullCopies 25 = .ok (.aload_n 0, 1) := by decide +kernel
theorem dX4_fullCopies_26 : decode cX4_fullCopies 26 = .ok (.getfield 7, 3) := by decide +kernel
theorem dX4_fullCopies_29 : decode cX4_fullCopies 29 = .ok (.bipush 14, 2) := by decide +kernel
theorem dX4_fullCopies_31 : decode cX4_fullCopies 31 = .ok (.iaload, 1) := by decide +kernel
theorem dX4_fullCopies_32 : decode cX4_fullCopies 32 = .ok (.ishl, 1) := by decide +kernel
theorem dX4_fullCopies_33 : decode cX4_fullCopies 33 = .ok (.iconst 1, 1) := by decide +kernel
theorem dX4_fullCopies_34 : decode cX4_fullCopies 34 = .ok (.isub, 1) := by decide +kernel
theorem dX4_fullCopies_35 : decode cX4_fullCopies 35 = .ok (.if_icmp .ne 9, 3) := by decide +kernel
theorem dX4_fullCopies_38 : decode cX4_fullCopies 38 = .ok (.iconst 1, 1) := by decide +kernel
theorem dX4_fullCopies_39 : decode cX4_fullCopies 39 = .ok (.iload_n 2, 1) := by decide +kernel
theorem dX4_fullCopies_40 : decode cX4_fullCopies 40 = .ok (.ishl, 1) := by decide +kernel
theorem dX4_fullCopies_41 : decode cX4_fullCopies 41 = .ok (.goto 4, 3) := by decide +kernel
theorem dX4_fullCopies_44 : decode cX4_fullCopies 44 = .ok (.iconst 0, 1) := by decide +kernel
theorem dX4_fullCopies_45 : decode cX4_fullCopies 45 = .ok (.ior, 1) := by decide +kernel
theorem dX4_fullCopies_46 : decode cX4_fullCopies 46 = .ok (.istore_n 1, 1) := by decide +kernel
theorem dX4_fullCopies_47 : decode cX4_fullCopies 47 = .ok (.iinc 2 1, 3) := by decide +kernel
theorem dX4_fullCopies_50 : decode cX4_fullCopies 50 = .ok (.goto (-46), 3) := by decide +kernel
theorem dX4_fullCopies_53 : decode cX4_fullCopies 53 = .ok (.iload_n 1, 1) := by decide +kernel
theorem dX4_fullCopies_54 : decode cX4_fullCopies 54 = .ok (.ireturn, 1) := by decide +kernel
theorem dX4_count_0 : decode cX4_count 0 = .ok (.iload_n 1, 1) := by decide +kernel
theorem dX4_count_1 : decode cX4_count 1 = .ok (.tableswitch 95 0 7 #[47, 54, 61, 69, 75, 80, 85, 90], 47) := by decide +kernel
theorem dX4_count_48 : decode cX4_count 48 = .ok (.aload_n 0, 1) := by decide +kernel
theorem dX4_count_49 : decode cX4_count 49 = .ok (.getfield 7, 3) := by decide +kernel
theorem dX4_count_52 : decode cX4_count 52 = .ok (.iconst 0, 1) := by decide +kernel
theorem dX4_count_53 : decode cX4_count 53 = .ok (.iaload, 1) := by decide +kernel
theorem dX4_count_54 : decode cX4_count 54 = .ok (.ireturn, 1) := by decide +kernel
theorem dX4_count_55 : decode cX4_count 55 = .ok (.aload_n 0, 1) := by decide +kernel
theorem dX4_count_56 : decode cX4_count 56 = .ok (.getfield 7, 3) := by decide +kernel
theorem dX4_count_59 : decode cX4_count 59 = .ok (.iconst 1, 1) := by decide +kernel
theorem dX4_count_60 : decode cX4_count 60 = .ok (.iaload, 1) := by decide +kernel
theorem dX4_count_61 : decode cX4_count 61 = .ok (.ireturn, 1) := by decide +kernel
theorem dX4_count_62 : decode cX4_count 62 = .ok (.aload_n 0, 1) := by decide +kernel
theorem dX4_count_63 : decode cX4_count 63 = .ok (.getfield 7, 3) := by decide +kernel
theorem dX4_count_66 : decode cX4_count 66 = .ok (.bipush 14, 2) := by decide +kernel
theorem dX4_count_68 : decode cX4_count 68 = .ok (.iaload, 1) := by decide +kernel
theorem dX4_count_69 : decode cX4_count 69 = .ok (.ireturn, 1) := by decide +kernel
theorem dX4_count_70 : decode cX4_count 70 = .ok (.aload_n 0, 1) := by decide +kernel
theorem dX4_count_71 : decode cX4_count 71 = .ok (.iconst (-1), 1) := by decide +kernel
theorem dX4_count_72 : decode cX4_count 72 = .ok (.invokevirtual 129, 3) := by decide +kernel
theorem dX4_count_75 : decode cX4_count 75 = .ok (.ireturn, 1) := by decide +kernel
theorem dX4_count_76 : decode cX4_count 76 = .ok (.aload_n 0, 1) := by decide +kernel
theorem dX4_count_77 : decode cX4_count 77 = .ok (.invokevirtual 188, 3) := by decide +kernel
theorem dX4_count_80 : decode cX4_count 80 = .ok (.ireturn, 1) := by decide +kernel
theorem dX4_count_81 : decode cX4_count 81 = .ok (.aload_n 0, 1) := by decide +kernel
theorem dX4_count_82 : decode cX4_count 82 = .ok (.getfield 176, 3) := by decide +kernel
theorem dX4_count_85 : decode cX4_count 85 = .ok (.ireturn, 1) := by decide +kernel
theorem dX4_count_86 : decode cX4_count 86 = .ok (.aload_n 0, 1) := by decide +kernel
theorem dX4_count_87 : decode cX4_count 87 = .ok (.getfield 60, 3) := by decide +kernel
theorem dX4_count_90 : decode cX4_count 90 = .ok (.ireturn, 1) := by decide +kernel
theorem dX4_count_91 : decode cX4_count 91 = .ok (.aload_n 0, 1) := by decide +kernel
theorem dX4_count_92 : decode cX4_count 92 = .ok (.getfield 49, 3) := by decide +kernel
theorem dX4_count_95 : decode cX4_count 95 = .ok (.ireturn, 1) := by decide +kernel
theorem dX4_count_96 : decode cX4_count 96 = .ok (.iconst (-1), 1) := by decide +kernel
theorem dX4_count_97 : decode cX4_count 97 = .ok (.ireturn, 1) := by decide +kernel
