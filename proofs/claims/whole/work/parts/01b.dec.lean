theorem dX0_init_0 : decode cX0_init 0 = .ok (.aload_n 0, 1) := by decide +kernel
theorem dX0_init_1 : decode cX0_init 1 = .ok (.invokespecial 3, 3) := by decide +kernel
theorem dX0_init_4 : decode cX0_init 4 = .ok (.aload_n 0, 1) := by decide +kernel
theorem dX0_init_5 : decode cX0_init 5 = .ok (.bipush 8, 2) := by decide +kernel
theorem dX0_init_7 : decode cX0_init 7 = .ok (.anewarray 9, 3) := by decide +kernel
theorem dX0_init_10 : decode cX0_init 10 = .ok (.putfield 11, 3) := by decide +kernel
theorem dX0_init_13 : decode cX0_init 13 = .ok (.aload_n 0, 1) := by decide +kernel
theorem dX0_init_14 : decode cX0_init 14 = .ok (.iconst 0, 1) := by decide +kernel
theorem dX0_init_15 : decode cX0_init 15 = .ok (.putfield 17, 3) := by decide +kernel
theorem dX0_init_18 : decode cX0_init 18 = .ok (.aload_n 0, 1) := by decide +kernel
theorem dX0_init_19 : decode cX0_init 19 = .ok (.iconst 0, 1) := by decide +kernel
theorem dX0_init_20 : decode cX0_init 20 = .ok (.putfield 21, 3) := by decide +kernel
theorem dX0_init_23 : decode cX0_init 23 = .ok (.iconst 0, 1) := by decide +kernel
theorem dX0_init_24 : decode cX0_init 24 = .ok (.istore_n 1, 1) := by decide +kernel
theorem dX0_init_25 : decode cX0_init 25 = .ok (.iload_n 1, 1) := by decide +kernel
theorem dX0_init_26 : decode cX0_init 26 = .ok (.bipush 8, 2) := by decide +kernel
theorem dX0_init_28 : decode cX0_init 28 = .ok (.if_icmp .ge 22, 3) := by decide +kernel
theorem dX0_init_31 : decode cX0_init 31 = .ok (.aload_n 0, 1) := by decide +kernel
theorem dX0_init_32 : decode cX0_init 32 = .ok (.getfield 11, 3) := by decide +kernel
theorem dX0_init_35 : decode cX0_init 35 = .ok (.iload_n 1, 1) := by decide +kernel
theorem dX0_init_36 : decode cX0_init 36 = .ok (.new 9, 3) := by decide +kernel
theorem dX0_init_39 : decode cX0_init 39 = .ok (.dup, 1) := by decide +kernel
theorem dX0_init_40 : decode cX0_init 40 = .ok (.invokespecial 24, 3) := by decide +kernel
theorem dX0_init_43 : decode cX0_init 43 = .ok (.aastore, 1) := by decide +kernel
theorem dX0_init_44 : decode cX0_init 44 = .ok (.iinc 1 1, 3) := by decide +kernel
theorem dX0_init_47 : decode cX0_init 47 = .ok (.goto (-22), 3) := by decide +kernel
theorem dX0_init_50 : decode cX0_init 50 = .ok (.return_, 1) := by decide +kernel
theorem dX0_remember_0 : decode cX0_remember 0 = .ok (.aload_n 0, 1) := by decide +kernel
theorem dX0_remember_1 : decode cX0_remember 1 = .ok (.getfield 11, 3) := by decide +kernel
theorem dX0_remember_4 : decode cX0_remember 4 = .ok (.aload_n 0, 1) := by decide +kernel
theorem dX0_remember_5 : decode cX0_remember 5 = .ok (.getfield 17, 3) := by decide +kernel
theorem dX0_remember_8 : decode cX0_remember 8 = .ok (.aaload, 1) := by decide +kernel
theorem dX0_remember_9 : decode cX0_remember 9 = .ok (.aload_n 1, 1) := by decide +kernel
theorem dX0_remember_10 : decode cX0_remember 10 = .ok (.invokevirtual 25, 3) := by decide +kernel
theorem dX0_remember_13 : decode cX0_remember 13 = .ok (.aload_n 0, 1) := by decide +kernel
theorem dX0_remember_14 : decode cX0_remember 14 = .ok (.aload_n 0, 1) := by decide +kernel
theorem dX0_remember_15 : decode cX0_remember 15 = .ok (.getfield 17, 3) := by decide +kernel
theorem dX0_remember_18 : decode cX0_remember 18 = .ok (.iconst 1, 1) := by decide +kernel
theorem dX0_remember_19 : decode cX0_remember 19 = .ok (.iadd, 1) := by decide +kernel
theorem dX0_remember_20 : decode cX0_remember 20 = .ok (.bipush 8, 2) := by decide +kernel
theorem dX0_remember_22 : decode cX0_remember 22 = .ok (.if_icmp .ge 12, 3) := by decide +kernel
theorem dX0_remember_25 : decode cX0_remember 25 = .ok (.aload_n 0, 1) := by decide +kernel
theorem dX0_remember_26 : decode cX0_remember 26 = .ok (.getfield 17, 3) := by decide +kernel
theorem dX0_remember_29 : decode cX0_remember 29 = .ok (.iconst 1, 1) := by decide +kernel
theorem dX0_remember_30 : decode cX0_remember 30 = .ok (.iadd, 1) := by decide +kernel
theorem dX0_remember_31 : decode cX0_remember 31 = .ok (.goto 4, 3) := by decide +kernel
theorem dX0_remember_34 : decode cX0_remember 34 = .ok (.iconst 0, 1) := by decide +kernel
theorem dX0_remember_35 : decode cX0_remember 35 = .ok (.putfield 17, 3) := by decide +kernel
theorem dX0_remember_38 : decode cX0_remember 38 = .ok (.aload_n 0, 1) := by decide +kernel
theorem dX0_remember_39 : decode cX0_remember 39 = .ok (.aload_n 0, 1) := by decide +kernel
theorem dX0_remember_40 : decode cX0_remember 40 = .ok (.getfield 21, 3) := by decide +kernel
theorem dX0_remember_43 : decode cX0_remember 43 = .ok (.iconst 1, 1) := by decide +kernel
theorem dX0_remember_44 : decode cX0_remember 44 = .ok (.iadd, 1) := by decide +kernel
theorem dX0_remember_45 : decode cX0_remember 45 = .ok (.bipush 8, 2) := by decide +kernel
theorem dX0_remember_47 : decode cX0_remember 47 = .ok (.invokestatic 29, 3) := by decide +kernel
theorem dX0_remember_50 : decode cX0_remember 50 = .ok (.putfield 21, 3) := by decide +kernel
theorem dX0_remember_53 : decode cX0_remember 53 = .ok (.return_, 1) := by decide +kernel
theorem dX0_lose_0 : decode cX0_lose 0 = .ok (.aload_n 0, 1) := by decide +kernel
theorem dX0_lose_1 : decode cX0_lose 1 = .ok (.iconst 0, 1) := by decide +kernel
theorem dX0_lose_2 : decode cX0_lose 2 = .ok (.putfield 21, 3) := by decide +kernel
theorem dX0_lose_5 : decode cX0_lose 5 = .ok (.return_, 1) := by decide +kernel
theorem dX0_restore_0 : decode cX0_restore 0 = .ok (.aload_n 0, 1) := by decide +kernel
theorem dX0_restore_1 : decode cX0_restore 1 = .ok (.aload_n 0, 1) := by decide +kernel
theorem dX0_restore_2 : decode cX0_restore 2 = .ok (.getfield 17, 3) := by decide +kernel
theorem dX0_restore_5 : decode cX0_restore 5 = .ok (.ifCond .le 12, 3) := by decide +kernel
theorem dX0_restore_8 : decode cX0_restore 8 = .ok (.aload_n 0, 1) := by decide +kernel
theorem dX0_restore_9 : decode cX0_restore 9 = .ok (.getfield 17, 3) := by decide +kernel
theorem dX0_restore_12 : decode cX0_restore 12 = .ok (.iconst 1, 1) := by decide +kernel
theorem dX0_restore_13 : decode cX0_restore 13 = .ok (.isub, 1) := by decide +kernel
theorem dX0_restore_14 : decode cX0_restore 14 = .ok (.goto 5, 3) := by decide +kernel
theorem dX0_restore_17 : decode cX0_restore 17 = .ok (.bipush 7, 2) := by decide +kernel
theorem dX0_restore_19 : decode cX0_restore 19 = .ok (.putfield 17, 3) := by decide +kernel
theorem dX0_restore_22 : decode cX0_restore 22 = .ok (.aload_n 0, 1) := by decide +kernel
theorem dX0_restore_23 : decode cX0_restore 23 = .ok (.dup, 1) := by decide +kernel
theorem dX0_restore_24 : decode cX0_restore 24 = .ok (.getfield 21, 3) := by decide +kernel
theorem dX0_restore_27 : decode cX0_restore 27 = .ok (.iconst 1, 1) := by decide +kernel
theorem dX0_restore_28 : decode cX0_restore 28 = .ok (.isub, 1) := by decide +kernel
theorem dX0_restore_29 : decode cX0_restore 29 = .ok (.putfield 21, 3) := by decide +kernel
theorem dX0_restore_32 : decode cX0_restore 32 = .ok (.aload_n 1, 1) := by decide +kernel
theorem dX0_restore_33 : decode cX0_restore 33 = .ok (.aload_n 0, 1) := by decide +kernel
theorem dX0_restore_34 : decode cX0_restore 34 = .ok (.getfield 11, 3) := by decide +kernel
theorem dX0_restore_37 : decode cX0_restore 37 = .ok (.aload_n 0, 1) := by decide +kernel
theorem dX0_restore_38 : decode cX0_restore 38 = .ok (.getfield 17, 3) := by decide +kernel
theorem dX0_restore_41 : decode cX0_restore 41 = .ok (.aaload, 1) := by decide +kernel
theorem dX0_restore_42 : decode cX0_restore 42 = .ok (.invokevirtual 25, 3) := by decide +kernel
theorem dX0_restore_45 : decode cX0_restore 45 = .ok (.return_, 1) := by decide +kernel
theorem dX1_init_0 : decode cX1_init 0 = .ok (.aload_n 0, 1) := by decide +kernel
theorem dX1_init_1 : decode cX1_init 1 = .ok (.invokespecial 3, 3) := by decide +kernel
theorem dX1_init_4 : decode cX1_init 4 = .ok (.aload_n 0, 1) := by decide +kernel
theorem dX1_init_5 : decode cX1_init 5 = .ok (.iconst 4, 1) := by decide +kernel
theorem dX1_init_6 : decode cX1_init 6 = .ok (.newarray .int, 2) := by decide +kernel
theorem dX1_init_8 : decode cX1_init 8 = .ok (.putfield 9, 3) := by decide +kernel
theorem dX1_init_11 : decode cX1_init 11 = .ok (.aload_n 0, 1) := by decide +kernel
theorem dX1_init_12 : decode cX1_init 12 = .ok (.iconst 4, 1) := by decide +kernel
theorem dX1_init_13 : decode cX1_init 13 = .ok (.newarray .int, 2) := by decide +kernel
theorem dX1_init_15 : decode cX1_init 15 = .ok (.putfield 15, 3) := by decide +kernel
theorem dX1_init_18 : decode cX1_init 18 = .ok (.aload_n 0, 1) := by decide +kernel
theorem dX1_init_19 : decode cX1_init 19 = .ok (.iconst 4, 1) := by decide +kernel
theorem dX1_init_20 : decode cX1_init 20 = .ok (.newarray .int, 2) := by decide +kernel
theorem dX1_init_22 : decode cX1_init 22 = .ok (.putfield 18, 3) := by decide +kernel
theorem dX1_init_25 : decode cX1_init 25 = .ok (.aload_n 0, 1) := by decide +kernel
theorem dX1_init_26 : decode cX1_init 26 = .ok (.iconst 4, 1) := by decide +kernel
theorem dX1_init_27 : decode cX1_init 27 = .ok (.newarray .int, 2) := by decide +kernel
theorem dX1_init_29 : decode cX1_init 29 = .ok (.putfield 21, 3) := by decide +kernel
theorem dX1_init_32 : decode cX1_init 32 = .ok (.aload_n 0, 1) := by decide +kernel
theorem dX1_init_33 : decode cX1_init 33 = .ok (.iconst 4, 1) := by decide +kernel
theorem dX1_init_34 : decode cX1_init 34 = .ok (.newarray .int, 2) := by decide +kernel
theorem dX1_init_36 : decode cX1_init 36 = .ok (.putfield 24, 3) := by decide +kernel
theorem dX1_init_39 : decode cX1_init 39 = .ok (.aload_n 0, 1) := by decide +kernel
theorem dX1_init_40 : decode cX1_init 40 = .ok (.bipush 16, 2) := by decide +kernel
theorem dX1_init_42 : decode cX1_init 42 = .ok (.newarray .int, 2) := by decide +kernel
theorem dX1_init_44 : decode cX1_init 44 = .ok (.putfield 27, 3) := by decide +kernel
theorem dX1_init_47 : decode cX1_init 47 = .ok (.aload_n 0, 1) := by decide +kernel
theorem dX1_init_48 : decode cX1_init 48 = .ok (.bipush 16, 2) := by decide +kernel
theorem dX1_init_50 : decode cX1_init 50 = .ok (.newarray .int, 2) := by decide +kernel
theorem dX1_init_52 : decode cX1_init 52 = .ok (.putfield 30, 3) := by decide +kernel
theorem dX1_init_55 : decode cX1_init 55 = .ok (.aload_n 0, 1) := by decide +kernel
theorem dX1_init_56 : decode cX1_init 56 = .ok (.bipush 24, 2) := by decide +kernel
theorem dX1_init_58 : decode cX1_init 58 = .ok (.newarray .int, 2) := by decide +kernel
theorem dX1_init_60 : decode cX1_init 60 = .ok (.putfield 33, 3) := by decide +kernel
theorem dX1_init_63 : decode cX1_init 63 = .ok (.aload_n 0, 1) := by decide +kernel
theorem dX1_init_64 : decode cX1_init 64 = .ok (.bipush 24, 2) := by decide +kernel
theorem dX1_init_66 : decode cX1_init 66 = .ok (.newarray .int, 2) := by decide +kernel
theorem dX1_init_68 : decode cX1_init 68 = .ok (.putfield 36, 3) := by decide +kernel
theorem dX1_init_71 : decode cX1_init 71 = .ok (.aload_n 0, 1) := by decide +kernel
theorem dX1_init_72 : decode cX1_init 72 = .ok (.bipush 24, 2) := by decide +kernel
theorem dX1_init_74 : decode cX1_init 74 = .ok (.newarray .int, 2) := by decide +kernel
theorem dX1_init_76 : decode cX1_init 76 = .ok (.putfield 39, 3) := by decide +kernel
theorem dX1_init_79 : decode cX1_init 79 = .ok (.aload_n 0, 1) := by decide +kernel
theorem dX1_init_80 : decode cX1_init 80 = .ok (.invokevirtual 42, 3) := by decide +kernel
theorem dX1_init_83 : decode cX1_init 83 = .ok (.aload_n 0, 1) := by decide +kernel
theorem dX1_init_84 : decode cX1_init 84 = .ok (.invokevirtual 45, 3) := by decide +kernel
theorem dX1_init_87 : decode cX1_init 87 = .ok (.return_, 1) := by decide +kernel
theorem dX1_startAnew_0 : decode cX1_startAnew 0 = .ok (.aload_n 0, 1) := by decide +kernel
theorem dX1_startAnew_1 : decode cX1_startAnew 1 = .ok (.iconst 3, 1) := by decide +kernel
theorem dX1_startAnew_2 : decode cX1_startAnew 2 = .ok (.putfield 48, 3) := by decide +kernel
theorem dX1_startAnew_5 : decode cX1_startAnew 5 = .ok (.aload_n 0, 1) := by decide +kernel
theorem dX1_startAnew_6 : decode cX1_startAnew 6 = .ok (.iconst 0, 1) := by decide +kernel
theorem dX1_startAnew_7 : decode cX1_startAnew 7 = .ok (.putfield 52, 3) := by decide +kernel
theorem dX1_startAnew_10 : decode cX1_startAnew 10 = .ok (.aload_n 0, 1) := by decide +kernel
theorem dX1_startAnew_11 : decode cX1_startAnew 11 = .ok (.iconst 0, 1) := by decide +kernel
theorem dX1_startAnew_12 : decode cX1_startAnew 12 = .ok (.putfield 55, 3) := by decide +kernel
theorem dX1_startAnew_15 : decode cX1_startAnew 15 = .ok (.aload_n 0, 1) := by decide +kernel
theorem dX1_startAnew_16 : decode cX1_startAnew 16 = .ok (.getfield 9, 3) := by decide +kernel
theorem dX1_startAnew_19 : decode cX1_startAnew 19 = .ok (.bipush 99, 2) := by decide +kernel
theorem dX1_startAnew_21 : decode cX1_startAnew 21 = .ok (.invokestatic 58, 3) := by decide +kernel
theorem dX1_startAnew_24 : decode cX1_startAnew 24 = .ok (.aload_n 0, 1) := by decide +kernel
theorem dX1_startAnew_25 : decode cX1_startAnew 25 = .ok (.getfield 15, 3) := by decide +kernel
theorem dX1_startAnew_28 : decode cX1_startAnew 28 = .ok (.bipush 9, 2) := by decide +kernel
theorem dX1_startAnew_30 : decode cX1_startAnew 30 = .ok (.invokestatic 58, 3) := by decide +kernel
theorem dX1_startAnew_33 : decode cX1_startAnew 33 = .ok (.aload_n 0, 1) := by decide +kernel
theorem dX1_startAnew_34 : decode cX1_startAnew 34 = .ok (.getfield 18, 3) := by decide +kernel
theorem dX1_startAnew_37 : decode cX1_startAnew 37 = .ok (.bipush 99, 2) := by decide +kernel
theorem dX1_startAnew_39 : decode cX1_startAnew 39 = .ok (.invokestatic 58, 3) := by decide +kernel
theorem dX1_startAnew_42 : decode cX1_startAnew 42 = .ok (.aload_n 0, 1) := by decide +kernel
theorem dX1_startAnew_43 : decode cX1_startAnew 43 = .ok (.getfield 21, 3) := by decide +kernel
theorem dX1_startAnew_46 : decode cX1_startAnew 46 = .ok (.iconst 0, 1) := by decide +kernel
theorem dX1_startAnew_47 : decode cX1_startAnew 47 = .ok (.invokestatic 58, 3) := by decide +kernel
theorem dX1_startAnew_50 : decode cX1_startAnew 50 = .ok (.aload_n 0, 1) := by decide +kernel
theorem dX1_startAnew_51 : decode cX1_startAnew 51 = .ok (.getfield 24, 3) := by decide +kernel
theorem dX1_startAnew_54 : decode cX1_startAnew 54 = .ok (.iconst 0, 1) := by decide +kernel
theorem dX1_startAnew_55 : decode cX1_startAnew 55 = .ok (.invokestatic 58, 3) := by decide +kernel
theorem dX1_startAnew_58 : decode cX1_startAnew 58 = .ok (.aload_n 0, 1) := by decide +kernel
theorem dX1_startAnew_59 : decode cX1_startAnew 59 = .ok (.getfield 27, 3) := by decide +kernel
theorem dX1_startAnew_62 : decode cX1_startAnew 62 = .ok (.iconst 0, 1) := by decide +kernel
theorem dX1_startAnew_63 : decode cX1_startAnew 63 = .ok (.invokestatic 58, 3) := by decide +kernel
theorem dX1_startAnew_66 : decode cX1_startAnew 66 = .ok (.return_, 1) := by decide +kernel
theorem dX1_takeFrom_0 : decode cX1_takeFrom 0 = .ok (.aload_n 0, 1) := by decide +kernel
theorem dX1_takeFrom_1 : decode cX1_takeFrom 1 = .ok (.aload_n 1, 1) := by decide +kernel
theorem dX1_takeFrom_2 : decode cX1_takeFrom 2 = .ok (.getfield 48, 3) := by decide +kernel
theorem dX1_takeFrom_5 : decode cX1_takeFrom 5 = .ok (.putfield 48, 3) := by decide +kernel
theorem dX1_takeFrom_8 : decode cX1_takeFrom 8 = .ok (.aload_n 0, 1) := by decide +kernel
theorem dX1_takeFrom_9 : decode cX1_takeFrom 9 = .ok (.aload_n 1, 1) := by decide +kernel
theorem dX1_takeFrom_10 : decode cX1_takeFrom 10 = .ok (.getfield 52, 3) := by decide +kernel
theorem dX1_takeFrom_13 : decode cX1_takeFrom 13 = .ok (.putfield 52, 3) := by decide +kernel
theorem dX1_takeFrom_16 : decode cX1_takeFrom 16 = .ok (.aload_n 0, 1) := by decide +kernel
theorem dX1_takeFrom_17 : decode cX1_takeFrom 17 = .ok (.aload_n 1, 1) := by decide +kernel
theorem dX1_takeFrom_18 : decode cX1_takeFrom 18 = .ok (.getfield 55, 3) := by decide +kernel
theorem dX1_takeFrom_21 : decode cX1_takeFrom 21 = .ok (.putfield 55, 3) := by decide +kernel
theorem dX1_takeFrom_24 : decode cX1_takeFrom 24 = .ok (.aload_n 1, 1) := by decide +kernel
theorem dX1_takeFrom_25 : decode cX1_takeFrom 25 = .ok (.getfield 9, 3) := by decide +kernel
theorem dX1_takeFrom_28 : decode cX1_takeFrom 28 = .ok (.iconst 0, 1) := by decide +kernel
theorem dX1_takeFrom_29 : decode cX1_takeFrom 29 = .ok (.aload_n 0, 1) := by decide +kernel
theorem dX1_takeFrom_30 : decode cX1_takeFrom 30 = .ok (.getfield 9, 3) := by decide +kernel
theorem dX1_takeFrom_33 : decode cX1_takeFrom 33 = .ok (.iconst 0, 1) := by decide +kernel
theorem dX1_takeFrom_34 : decode cX1_takeFrom 34 = .ok (.iconst 4, 1) := by decide +kernel
theorem dX1_takeFrom_35 : decode cX1_takeFrom 35 = .ok (.invokestatic 64, 3) := by decide +kernel
theorem dX1_takeFrom_38 : decode cX1_takeFrom 38 = .ok (.aload_n 1, 1) := by decide +kernel
theorem dX1_takeFrom_39 : decode cX1_takeFrom 39 = .ok (.getfield 15, 3) := by decide +kernel
theorem dX1_takeFrom_42 : decode cX1_takeFrom 42 = .ok (.iconst 0, 1) := by decide +kernel
theorem dX1_takeFrom_43 : decode cX1_takeFrom 43 = .ok (.aload_n 0, 1) := by decide +kernel
theorem dX1_takeFrom_44 : decode cX1_takeFrom 44 = .ok (.getfield 15, 3) := by decide +kernel
theorem dX1_takeFrom_47 : decode cX1_takeFrom 47 = .ok (.iconst 0, 1) := by decide +kernel
theorem dX1_takeFrom_48 : decode cX1_takeFrom 48 = .ok (.iconst 4, 1) := by decide +kernel
theorem dX1_takeFrom_49 : decode cX1_takeFrom 49 = .ok (.invokestatic 64, 3) := by decide +kernel
theorem dX1_takeFrom_52 : decode cX1_takeFrom 52 = .ok (.aload_n 1, 1) := by decide +kernel
theorem dX1_takeFrom_53 : decode cX1_takeFrom 53 = .ok (.getfield 18, 3) := by decide +kernel
theorem dX1_takeFrom_56 : decode cX1_takeFrom 56 = .ok (.iconst 0, 1) := by decide +kernel
theorem dX1_takeFrom_57 : decode cX1_takeFrom 57 = .ok (.aload_n 0, 1) := by decide +kernel
theorem dX1_takeFrom_58 : decode cX1_takeFrom 58 = .ok (.getfield 18, 3) := by decide +kernel
theorem dX1_takeFrom_61 : decode cX1_takeFrom 61 = .ok (.iconst 0, 1) := by decide +kernel
theorem dX1_takeFrom_62 : decode cX1_takeFrom 62 = .ok (.iconst 4, 1) := by decide +kernel
theorem dX1_takeFrom_63 : decode cX1_takeFrom 63 = .ok (.invokestatic 64, 3) := by decide +kernel
theorem dX1_takeFrom_66 : decode cX1_takeFrom 66 = .ok (.aload_n 1, 1) := by decide +kernel
theorem dX1_takeFrom_67 : decode cX1_takeFrom 67 = .ok (.getfield 21, 3) := by decide +kernel
theorem dX1_takeFrom_70 : decode cX1_takeFrom 70 = .ok (.iconst 0, 1) := by decide +kernel
theorem dX1_takeFrom_71 : decode cX1_takeFrom 71 = .ok (.aload_n 0, 1) := by decide +kernel
theorem dX1_takeFrom_72 : decode cX1_takeFrom 72 = .ok (.getfield 21, 3) := by decide +kernel
theorem dX1_takeFrom_75 : decode cX1_takeFrom 75 = .ok (.iconst 0, 1) := by decide +kernel
theorem dX1_takeFrom_76 : decode cX1_takeFrom 76 = .ok (.iconst 4, 1) := by decide +kernel
theorem dX1_takeFrom_77 : decode cX1_takeFrom 77 = .ok (.invokestatic 64, 3) := by decide +kernel
theorem dX1_takeFrom_80 : decode cX1_takeFrom 80 = .ok (.aload_n 1, 1) := by decide +kernel
theorem dX1_takeFrom_81 : decode cX1_takeFrom 81 = .ok (.getfield 24, 3) := by decide +kernel
theorem dX1_takeFrom_84 : decode cX1_takeFrom 84 = .ok (.iconst 0, 1) := by decide +kernel
theorem dX1_takeFrom_85 : decode cX1_takeFrom 85 = .ok (.aload_n 0, 1) := by decide +kernel
theorem dX1_takeFrom_86 : decode cX1_takeFrom 86 = .ok (.getfield 24, 3) := by decide +kernel
theorem dX1_takeFrom_89 : decode cX1_takeFrom 89 = .ok (.iconst 0, 1) := by decide +kernel
theorem dX1_takeFrom_90 : decode cX1_takeFrom 90 = .ok (.iconst 4, 1) := by decide +kernel
theorem dX1_takeFrom_91 : decode cX1_takeFrom 91 = .ok (.invokestatic 64, 3) := by decide +kernel
theorem dX1_takeFrom_94 : decode cX1_takeFrom 94 = .ok (.aload_n 1, 1) := by decide +kernel
theorem dX1_takeFrom_95 : decode cX1_takeFrom 95 = .ok (.getfield 27, 3) := by decide +kernel
theorem dX1_takeFrom_98 : decode cX1_takeFrom 98 = .ok (.iconst 0, 1) := by decide +kernel
theorem dX1_takeFrom_99 : decode cX1_takeFrom 99 = .ok (.aload_n 0, 1) := by decide +kernel
theorem dX1_takeFrom_100 : decode cX1_takeFrom 100 = .ok (.getfield 27, 3) := by decide +kernel
theorem dX1_takeFrom_103 : decode cX1_takeFrom 103 = .ok (.iconst 0, 1) := by decide +kernel
theorem dX1_takeFrom_104 : decode cX1_takeFrom 104 = .ok (.bipush 16, 2) := by decide +kernel
theorem dX1_takeFrom_106 : decode cX1_takeFrom 106 = .ok (.invokestatic 64, 3) := by decide +kernel
theorem dX1_takeFrom_109 : decode cX1_takeFrom 109 = .ok (.aload_n 1, 1) := by decide +kernel
theorem dX1_takeFrom_110 : decode cX1_takeFrom 110 = .ok (.getfield 30, 3) := by decide +kernel
theorem dX1_takeFrom_113 : decode cX1_takeFrom 113 = .ok (.iconst 0, 1) := by decide +kernel
theorem dX1_takeFrom_114 : decode cX1_takeFrom 114 = .ok (.aload_n 0, 1) := by decide +kernel
theorem dX1_takeFrom_115 : decode cX1_takeFrom 115 = .ok (.getfield 30, 3) := by decide +kernel
theorem dX1_takeFrom_118 : decode cX1_takeFrom 118 = .ok (.iconst 0, 1) := by decide +kernel
theorem dX1_takeFrom_119 : decode cX1_takeFrom 119 = .ok (.bipush 16, 2) := by decide +kernel
theorem dX1_takeFrom_121 : decode cX1_takeFrom 121 = .ok (.invokestatic 64, 3) := by decide +kernel
theorem dX1_takeFrom_124 : decode cX1_takeFrom 124 = .ok (.aload_n 1, 1) := by decide +kernel
theorem dX1_takeFrom_125 : decode cX1_takeFrom 125 = .ok (.getfield 33, 3) := by decide +kernel
theorem dX1_takeFrom_128 : decode cX1_takeFrom 128 = .ok (.iconst 0, 1) := by decide +kernel
theorem dX1_takeFrom_129 : decode cX1_takeFrom 129 = .ok (.aload_n 0, 1) := by decide +kernel
theorem dX1_takeFrom_130 : decode cX1_takeFrom 130 = .ok (.getfield 33, 3) := by decide +kernel
theorem dX1_takeFrom_133 : decode cX1_takeFrom 133 = .ok (.iconst 0, 1) := by decide +kernel
theorem dX1_takeFrom_134 : decode cX1_takeFrom 134 = .ok (.bipush 24, 2) := by decide +kernel
theorem dX1_takeFrom_136 : decode cX1_takeFrom 136 = .ok (.invokestatic 64, 3) := by decide +kernel
theorem dX1_takeFrom_139 : decode cX1_takeFrom 139 = .ok (.aload_n 1, 1) := by decide +kernel
theorem dX1_takeFrom_140 : decode cX1_takeFrom 140 = .ok (.getfield 36, 3) := by decide +kernel
theorem dX1_takeFrom_143 : decode cX1_takeFrom 143 = .ok (.iconst 0, 1) := by decide +kernel
theorem dX1_takeFrom_144 : decode cX1_takeFrom 144 = .ok (.aload_n 0, 1) := by decide +kernel
theorem dX1_takeFrom_145 : decode cX1_takeFrom 145 = .ok (.getfield 36, 3) := by decide +kernel
theorem dX1_takeFrom_148 : decode cX1_takeFrom 148 = .ok (.iconst 0, 1) := by decide +kernel
theorem dX1_takeFrom_149 : decode cX1_takeFrom 149 = .ok (.bipush 24, 2) := by decide +kernel
theorem dX1_takeFrom_151 : decode cX1_takeFrom 151 = .ok (.invokestatic 64, 3) := by decide +kernel
theorem dX1_takeFrom_154 : decode cX1_takeFrom 154 = .ok (.aload_n 1, 1) := by decide +kernel
theorem dX1_takeFrom_155 : decode cX1_takeFrom 155 = .ok (.getfield 39, 3) := by decide +kernel
theorem dX1_takeFrom_158 : decode cX1_takeFrom 158 = .ok (.iconst 0, 1) := by decide +kernel
theorem dX1_takeFrom_159 : decode cX1_takeFrom 159 = .ok (.aload_n 0, 1) := by decide +kernel
theorem dX1_takeFrom_160 : decode cX1_takeFrom 160 = .ok (.getfield 39, 3) := by decide +kernel
theorem dX1_takeFrom_163 : decode cX1_takeFrom 163 = .ok (.iconst 0, 1) := by decide +kernel
theorem dX1_takeFrom_164 : decode cX1_takeFrom 164 = .ok (.bipush 24, 2) := by decide +kernel
theorem dX1_takeFrom_166 : decode cX1_takeFrom 166 = .ok (.invokestatic 64, 3) := by decide +kernel
theorem dX1_takeFrom_169 : decode cX1_takeFrom 169 = .ok (.return_, 1) := by decide +kernel
theorem dX1_setBounds_0 : decode cX1_setBounds 0 = .ok (.aload_n 0, 1) := by decide +kernel
theorem dX1_setBounds_1 : decode cX1_setBounds 1 = .ok (.getfield 9, 3) := by decide +kernel
theorem dX1_setBounds_4 : decode cX1_setBounds 4 = .ok (.iload_n 1, 1) := by decide +kernel
theorem dX1_setBounds_5 : decode cX1_setBounds 5 = .ok (.iload_n 2, 1) := by decide +kernel
theorem dX1_setBounds_6 : decode cX1_setBounds 6 = .ok (.iastore, 1) := by decide +kernel
theorem dX1_setBounds_7 : decode cX1_setBounds 7 = .ok (.aload_n 0, 1) := by decide +kernel
theorem dX1_setBounds_8 : decode cX1_setBounds 8 = .ok (.getfield 15, 3) := by decide +kernel
theorem dX1_setBounds_11 : decode cX1_setBounds 11 = .ok (.iload_n 1, 1) := by decide +kernel
theorem dX1_setBounds_12 : decode cX1_setBounds 12 = .ok (.iload_n 3, 1) := by decide +kernel
theorem dX1_setBounds_13 : decode cX1_setBounds 13 = .ok (.iastore, 1) := by decide +kernel
theorem dX1_setBounds_14 : decode cX1_setBounds 14 = .ok (.aload_n 0, 1) := by decide +kernel
theorem dX1_setBounds_15 : decode cX1_setBounds 15 = .ok (.getfield 18, 3) := by decide +kernel
theorem dX1_setBounds_18 : decode cX1_setBounds 18 = .ok (.iload_n 1, 1) := by decide +kernel
theorem dX1_setBounds_19 : decode cX1_setBounds 19 = .ok (.iload 4, 2) := by decide +kernel
theorem dX1_setBounds_21 : decode cX1_setBounds 21 = .ok (.iastore, 1) := by decide +kernel
theorem dX1_setBounds_22 : decode cX1_setBounds 22 = .ok (.return_, 1) := by decide +kernel
theorem dX1_isBound_0 : decode cX1_isBound 0 = .ok (.aload_n 0, 1) := by decide +kernel
theorem dX1_isBound_1 : decode cX1_isBound 1 = .ok (.getfield 9, 3) := by decide +kernel
theorem dX1_isBound_4 : decode cX1_isBound 4 = .ok (.iload_n 1, 1) := by decide +kernel
theorem dX1_isBound_5 : decode cX1_isBound 5 = .ok (.iaload, 1) := by decide +kernel
theorem dX1_isBound_6 : decode cX1_isBound 6 = .ok (.iload_n 2, 1) := by decide +kernel
theorem dX1_isBound_7 : decode cX1_isBound 7 = .ok (.if_icmp .ne 28, 3) := by decide +kernel
theorem dX1_isBound_10 : decode cX1_isBound 10 = .ok (.aload_n 0, 1) := by decide +kernel
theorem dX1_isBound_11 : decode cX1_isBound 11 = .ok (.getfield 15, 3) := by decide +kernel
theorem dX1_isBound_14 : decode cX1_isBound 14 = .ok (.iload_n 1, 1) := by decide +kernel
theorem dX1_isBound_15 : decode cX1_isBound 15 = .ok (.iaload, 1) := by decide +kernel
theorem dX1_isBound_16 : decode cX1_isBound 16 = .ok (.iload_n 3, 1) := by decide +kernel
theorem dX1_isBound_17 : decode cX1_isBound 17 = .ok (.if_icmp .ne 18, 3) := by decide +kernel
theorem dX1_isBound_20 : decode cX1_isBound 20 = .ok (.aload_n 0, 1) := by decide +kernel
theorem dX1_isBound_21 : decode cX1_isBound 21 = .ok (.getfield 18, 3) := by decide +kernel
theorem dX1_isBound_24 : decode cX1_isBound 24 = .ok (.iload_n 1, 1) := by decide +kernel
theorem dX1_isBound_25 : decode cX1_isBound 25 = .ok (.iaload, 1) := by decide +kernel
theorem dX1_isBound_26 : decode cX1_isBound 26 = .ok (.iload 4, 2) := by decide +kernel
theorem dX1_isBound_28 : decode cX1_isBound 28 = .ok (.if_icmp .ne 7, 3) := by decide +kernel
theorem dX1_isBound_31 : decode cX1_isBound 31 = .ok (.iconst 1, 1) := by decide +kernel
theorem dX1_isBound_32 : decode cX1_isBound 32 = .ok (.goto 4, 3) := by decide +kernel
theorem dX1_isBound_35 : decode cX1_isBound 35 = .ok (.iconst 0, 1) := by decide +kernel
theorem dX1_isBound_36 : decode cX1_isBound 36 = .ok (.ireturn, 1) := by decide +kernel
theorem dX1_splitAllNumbers_0 : decode cX1_splitAllNumbers 0 = .ok (.iconst 0, 1) := by decide +kernel
theorem dX1_splitAllNumbers_1 : decode cX1_splitAllNumbers 1 = .ok (.istore_n 1, 1) := by decide +kernel
theorem dX1_splitAllNumbers_2 : decode cX1_splitAllNumbers 2 = .ok (.iload_n 1, 1) := by decide +kernel
theorem dX1_splitAllNumbers_3 : decode cX1_splitAllNumbers 3 = .ok (.aload_n 0, 1) := by decide +kernel
theorem dX1_splitAllNumbers_4 : decode cX1_splitAllNumbers 4 = .ok (.getfield 48, 3) := by decide +kernel
theorem dX1_splitAllNumbers_7 : decode cX1_splitAllNumbers 7 = .ok (.if_icmp .ge 14, 3) := by decide +kernel
theorem dX1_splitAllNumbers_10 : decode cX1_splitAllNumbers 10 = .ok (.aload_n 0, 1) := by decide +kernel
theorem dX1_splitAllNumbers_11 : decode cX1_splitAllNumbers 11 = .ok (.iload_n 1, 1) := by decide +kernel
theorem dX1_splitAllNumbers_12 : decode cX1_splitAllNumbers 12 = .ok (.invokevirtual 70, 3) := by decide +kernel
theorem dX1_splitAllNumbers_15 : decode cX1_splitAllNumbers 15 = .ok (.iinc 1 1, 3) := by decide +kernel
theorem dX1_splitAllNumbers_18 : decode cX1_splitAllNumbers 18 = .ok (.goto (-16), 3) := by decide +kernel
theorem dX1_splitAllNumbers_21 : decode cX1_splitAllNumbers 21 = .ok (.return_, 1) := by decide +kernel
theorem dX1_splitNumber_0 : decode cX1_splitNumber 0 = .ok (.iconst 0, 1) := by decide +kernel
theorem dX1_splitNumber_1 : decode cX1_splitNumber 1 = .ok (.istore_n 2, 1) := by decide +kernel
theorem dX1_splitNumber_2 : decode cX1_splitNumber 2 = .ok (.iload_n 2, 1) := by decide +kernel
theorem dX1_splitNumber_3 : decode cX1_splitNumber 3 = .ok (.aload_n 0, 1) := by decide +kernel
theorem dX1_splitNumber_4 : decode cX1_splitNumber 4 = .ok (.getfield 48, 3) := by decide +kernel
theorem dX1_splitNumber_7 : decode cX1_splitNumber 7 = .ok (.if_icmp .ge 36, 3) := by decide +kernel
theorem dX1_splitNumber_10 : decode cX1_splitNumber 10 = .ok (.iload_n 2, 1) := by decide +kernel
theorem dX1_splitNumber_11 : decode cX1_splitNumber 11 = .ok (.iload_n 1, 1) := by decide +kernel
theorem dX1_splitNumber_12 : decode cX1_splitNumber 12 = .ok (.if_icmp .eq 25, 3) := by decide +kernel
theorem dX1_splitNumber_15 : decode cX1_splitNumber 15 = .ok (.aload_n 0, 1) := by decide +kernel
theorem dX1_splitNumber_16 : decode cX1_splitNumber 16 = .ok (.getfield 30, 3) := by decide +kernel
theorem dX1_splitNumber_19 : decode cX1_splitNumber 19 = .ok (.iload_n 1, 1) := by decide +kernel
theorem dX1_splitNumber_20 : decode cX1_splitNumber 20 = .ok (.iload_n 2, 1) := by decide +kernel
theorem dX1_splitNumber_21 : decode cX1_splitNumber 21 = .ok (.invokestatic 74, 3) := by decide +kernel
theorem dX1_splitNumber_24 : decode cX1_splitNumber 24 = .ok (.aload_n 0, 1) := by decide +kernel
theorem dX1_splitNumber_25 : decode cX1_splitNumber 25 = .ok (.aload_n 0, 1) := by decide +kernel
theorem dX1_splitNumber_26 : decode cX1_splitNumber 26 = .ok (.getfield 9, 3) := by decide +kernel
theorem dX1_splitNumber_29 : decode cX1_splitNumber 29 = .ok (.iload_n 1, 1) := by decide +kernel
theorem dX1_splitNumber_30 : decode cX1_splitNumber 30 = .ok (.iaload, 1) := by decide +kernel
theorem dX1_splitNumber_31 : decode cX1_splitNumber 31 = .ok (.iload_n 1, 1) := by decide +kernel
theorem dX1_splitNumber_32 : decode cX1_splitNumber 32 = .ok (.iload_n 2, 1) := by decide +kernel
theorem dX1_splitNumber_33 : decode cX1_splitNumber 33 = .ok (.invokevirtual 78, 3) := by decide +kernel
theorem dX1_splitNumber_36 : decode cX1_splitNumber 36 = .ok (.iastore, 1) := by decide +kernel
theorem dX1_splitNumber_37 : decode cX1_splitNumber 37 = .ok (.iinc 2 1, 3) := by decide +kernel
theorem dX1_splitNumber_40 : decode cX1_splitNumber 40 = .ok (.goto (-38), 3) := by decide +kernel
theorem dX1_splitNumber_43 : decode cX1_splitNumber 43 = .ok (.return_, 1) := by decide +kernel
theorem dX1_shareOf_0 : decode cX1_shareOf 0 = .ok (.aload_n 0, 1) := by decide +kernel
theorem dX1_shareOf_1 : decode cX1_shareOf 1 = .ok (.getfield 48, 3) := by decide +kernel
theorem dX1_shareOf_4 : decode cX1_shareOf 4 = .ok (.iconst 1, 1) := by decide +kernel
theorem dX1_shareOf_5 : decode cX1_shareOf 5 = .ok (.isub, 1) := by decide +kernel
theorem dX1_shareOf_6 : decode cX1_shareOf 6 = .ok (.istore 4, 2) := by decide +kernel
theorem dX1_shareOf_8 : decode cX1_shareOf 8 = .ok (.iload 4, 2) := by decide +kernel
theorem dX1_shareOf_10 : decode cX1_shareOf 10 = .ok (.iconst 1, 1) := by decide +kernel
theorem dX1_shareOf_11 : decode cX1_shareOf 11 = .ok (.if_icmp .ge 5, 3) := by decide +kernel
theorem dX1_shareOf_14 : decode cX1_shareOf 14 = .ok (.iconst 0, 1) := by decide +kernel
theorem dX1_shareOf_15 : decode cX1_shareOf 15 = .ok (.ireturn, 1) := by decide +kernel
theorem dX1_shareOf_16 : decode cX1_shareOf 16 = .ok (.iload_n 3, 1) := by decide +kernel
theorem dX1_shareOf_17 : decode cX1_shareOf 17 = .ok (.iload_n 2, 1) := by decide +kernel
theorem dX1_shareOf_18 : decode cX1_shareOf 18 = .ok (.if_icmp .le 9, 3) := by decide +kernel
theorem dX1_shareOf_21 : decode cX1_shareOf 21 = .ok (.iload_n 3, 1) := by decide +kernel
theorem dX1_shareOf_22 : decode cX1_shareOf 22 = .ok (.iconst 1, 1) := by decide +kernel
theorem dX1_shareOf_23 : decode cX1_shareOf 23 = .ok (.isub, 1) := by decide +kernel
theorem dX1_shareOf_24 : decode cX1_shareOf 24 = .ok (.goto 4, 3) := by decide +kernel
theorem dX1_shareOf_27 : decode cX1_shareOf 27 = .ok (.iload_n 3, 1) := by decide +kernel
theorem dX1_shareOf_28 : decode cX1_shareOf 28 = .ok (.istore 5, 2) := by decide +kernel
theorem dX1_shareOf_30 : decode cX1_shareOf 30 = .ok (.iload_n 1, 1) := by decide +kernel
theorem dX1_shareOf_31 : decode cX1_shareOf 31 = .ok (.iload 4, 2) := by decide +kernel
theorem dX1_shareOf_33 : decode cX1_shareOf 33 = .ok (.idiv, 1) := by decide +kernel
theorem dX1_shareOf_34 : decode cX1_shareOf 34 = .ok (.iload 5, 2) := by decide +kernel
theorem dX1_shareOf_36 : decode cX1_shareOf 36 = .ok (.iload_n 1, 1) := by decide +kernel
theorem dX1_shareOf_37 : decode cX1_shareOf 37 = .ok (.iload 4, 2) := by decide +kernel
theorem dX1_shareOf_39 : decode cX1_shareOf 39 = .ok (.irem, 1) := by decide +kernel
theorem dX1_shareOf_40 : decode cX1_shareOf 40 = .ok (.if_icmp .ge 7, 3) := by decide +kernel
theorem dX1_shareOf_43 : decode cX1_shareOf 43 = .ok (.iconst 1, 1) := by decide +kernel
theorem dX1_shareOf_44 : decode cX1_shareOf 44 = .ok (.goto 4, 3) := by decide +kernel
theorem dX1_shareOf_47 : decode cX1_shareOf 47 = .ok (.iconst 0, 1) := by decide +kernel
theorem dX1_shareOf_48 : decode cX1_shareOf 48 = .ok (.iadd, 1) := by decide +kernel
theorem dX1_shareOf_49 : decode cX1_shareOf 49 = .ok (.ireturn, 1) := by decide +kernel
theorem dX1_allWrites_0 : decode cX1_allWrites 0 = .ok (.iconst 1, 1) := by decide +kernel
theorem dX1_allWrites_1 : decode cX1_allWrites 1 = .ok (.aload_n 0, 1) := by decide +kernel
theorem dX1_allWrites_2 : decode cX1_allWrites 2 = .ok (.getfield 55, 3) := by decide +kernel
theorem dX1_allWrites_5 : decode cX1_allWrites 5 = .ok (.ishl, 1) := by decide +kernel
theorem dX1_allWrites_6 : decode cX1_allWrites 6 = .ok (.iconst 1, 1) := by decide +kernel
theorem dX1_allWrites_7 : decode cX1_allWrites 7 = .ok (.isub, 1) := by decide +kernel
theorem dX1_allWrites_8 : decode cX1_allWrites 8 = .ok (.ireturn, 1) := by decide +kernel
theorem dX1_weightOf_0 : decode cX1_weightOf 0 = .ok (.iconst 0, 1) := by decide +kernel
theorem dX1_weightOf_1 : decode cX1_weightOf 1 = .ok (.istore_n 2, 1) := by decide +kernel
theorem dX1_weightOf_2 : decode cX1_weightOf 2 = .ok (.iconst 0, 1) := by decide +kernel
theorem dX1_weightOf_3 : decode cX1_weightOf 3 = .ok (.istore_n 3, 1) := by decide +kernel
theorem dX1_weightOf_4 : decode cX1_weightOf 4 = .ok (.iload_n 3, 1) := by decide +kernel
theorem dX1_weightOf_5 : decode cX1_weightOf 5 = .ok (.aload_n 0, 1) := by decide +kernel
theorem dX1_weightOf_6 : decode cX1_weightOf 6 = .ok (.getfield 55, 3) := by decide +kernel
theorem dX1_weightOf_9 : decode cX1_weightOf 9 = .ok (.if_icmp .ge 26, 3) := by decide +kernel
theorem dX1_weightOf_12 : decode cX1_weightOf 12 = .ok (.iload_n 1, 1) := by decide +kernel
theorem dX1_weightOf_13 : decode cX1_weightOf 13 = .ok (.iload_n 3, 1) := by decide +kernel
theorem dX1_weightOf_14 : decode cX1_weightOf 14 = .ok (.invokestatic 82, 3) := by decide +kernel
theorem dX1_weightOf_17 : decode cX1_weightOf 17 = .ok (.ifCond .eq 12, 3) := by decide +kernel
theorem dX1_weightOf_20 : decode cX1_weightOf 20 = .ok (.iload_n 2, 1) := by decide +kernel
theorem dX1_weightOf_21 : decode cX1_weightOf 21 = .ok (.aload_n 0, 1) := by decide +kernel
theorem dX1_weightOf_22 : decode cX1_weightOf 22 = .ok (.getfield 39, 3) := by decide +kernel
theorem dX1_weightOf_25 : decode cX1_weightOf 25 = .ok (.iload_n 3, 1) := by decide +kernel
theorem dX1_weightOf_26 : decode cX1_weightOf 26 = .ok (.iaload, 1) := by decide +kernel
theorem dX1_weightOf_27 : decode cX1_weightOf 27 = .ok (.iadd, 1) := by decide +kernel
theorem dX1_weightOf_28 : decode cX1_weightOf 28 = .ok (.istore_n 2, 1) := by decide +kernel
theorem dX1_weightOf_29 : decode cX1_weightOf 29 = .ok (.iinc 3 1, 3) := by decide +kernel
theorem dX1_weightOf_32 : decode cX1_weightOf 32 = .ok (.goto (-28), 3) := by decide +kernel
theorem dX1_weightOf_35 : decode cX1_weightOf 35 = .ok (.iload_n 2, 1) := by decide +kernel
theorem dX1_weightOf_36 : decode cX1_weightOf 36 = .ok (.ireturn, 1) := by decide +kernel
theorem dX1_writesBy_0 : decode cX1_writesBy 0 = .ok (.iconst 0, 1) := by decide +kernel
theorem dX1_writesBy_1 : decode cX1_writesBy 1 = .ok (.istore_n 2, 1) := by decide +kernel
theorem dX1_writesBy_2 : decode cX1_writesBy 2 = .ok (.iconst 0, 1) := by decide +kernel
theorem dX1_writesBy_3 : decode cX1_writesBy 3 = .ok (.istore_n 3, 1) := by decide +kernel
theorem dX1_writesBy_4 : decode cX1_writesBy 4 = .ok (.iload_n 3, 1) := by decide +kernel
theorem dX1_writesBy_5 : decode cX1_writesBy 5 = .ok (.aload_n 0, 1) := by decide +kernel
theorem dX1_writesBy_6 : decode cX1_writesBy 6 = .ok (.getfield 55, 3) := by decide +kernel
theorem dX1_writesBy_9 : decode cX1_writesBy 9 = .ok (.if_icmp .ge 25, 3) := by decide +kernel
theorem dX1_writesBy_12 : decode cX1_writesBy 12 = .ok (.aload_n 0, 1) := by decide +kernel
theorem dX1_writesBy_13 : decode cX1_writesBy 13 = .ok (.getfield 33, 3) := by decide +kernel
theorem dX1_writesBy_16 : decode cX1_writesBy 16 = .ok (.iload_n 3, 1) := by decide +kernel
theorem dX1_writesBy_17 : decode cX1_writesBy 17 = .ok (.iaload, 1) := by decide +kernel
theorem dX1_writesBy_18 : decode cX1_writesBy 18 = .ok (.iload_n 1, 1) := by decide +kernel
theorem dX1_writesBy_19 : decode cX1_writesBy 19 = .ok (.if_icmp .ne 9, 3) := by decide +kernel
theorem dX1_writesBy_22 : decode cX1_writesBy 22 = .ok (.iload_n 2, 1) := by decide +kernel
theorem dX1_writesBy_23 : decode cX1_writesBy 23 = .ok (.iconst 1, 1) := by decide +kernel
theorem dX1_writesBy_24 : decode cX1_writesBy 24 = .ok (.iload_n 3, 1) := by decide +kernel
theorem dX1_writesBy_25 : decode cX1_writesBy 25 = .ok (.ishl, 1) := by decide +kernel
theorem dX1_writesBy_26 : decode cX1_writesBy 26 = .ok (.ior, 1) := by decide +kernel
theorem dX1_writesBy_27 : decode cX1_writesBy 27 = .ok (.istore_n 2, 1) := by decide +kernel
theorem dX1_writesBy_28 : decode cX1_writesBy 28 = .ok (.iinc 3 1, 3) := by decide +kernel
theorem dX1_writesBy_31 : decode cX1_writesBy 31 = .ok (.goto (-27), 3) := by decide +kernel
theorem dX1_writesBy_34 : decode cX1_writesBy 34 = .ok (.iload_n 2, 1) := by decide +kernel
theorem dX1_writesBy_35 : decode cX1_writesBy 35 = .ok (.ireturn, 1) := by decide +kernel
theorem dX1_sum_0 : decode cX1_sum 0 = .ok (.aload_n 0, 1) := by decide +kernel
theorem dX1_sum_1 : decode cX1_sum 1 = .ok (.aload_n 0, 1) := by decide +kernel
theorem dX1_sum_2 : decode cX1_sum 2 = .ok (.getfield 21, 3) := by decide +kernel
theorem dX1_sum_5 : decode cX1_sum 5 = .ok (.iload_n 1, 1) := by decide +kernel
theorem dX1_sum_6 : decode cX1_sum 6 = .ok (.iaload, 1) := by decide +kernel
theorem dX1_sum_7 : decode cX1_sum 7 = .ok (.invokevirtual 86, 3) := by decide +kernel
theorem dX1_sum_10 : decode cX1_sum 10 = .ok (.ireturn, 1) := by decide +kernel
theorem dX1_lack_0 : decode cX1_lack 0 = .ok (.aload_n 0, 1) := by decide +kernel
theorem dX1_lack_1 : decode cX1_lack 1 = .ok (.aload_n 0, 1) := by decide +kernel
theorem dX1_lack_2 : decode cX1_lack 2 = .ok (.invokevirtual 90, 3) := by decide +kernel
theorem dX1_lack_5 : decode cX1_lack 5 = .ok (.aload_n 0, 1) := by decide +kernel
theorem dX1_lack_6 : decode cX1_lack 6 = .ok (.getfield 21, 3) := by decide +kernel
theorem dX1_lack_9 : decode cX1_lack 9 = .ok (.iload_n 1, 1) := by decide +kernel
theorem dX1_lack_10 : decode cX1_lack 10 = .ok (.iaload, 1) := by decide +kernel
theorem dX1_lack_11 : decode cX1_lack 11 = .ok (.iconst (-1), 1) := by decide +kernel
theorem dX1_lack_12 : decode cX1_lack 12 = .ok (.ixor, 1) := by decide +kernel
theorem dX1_lack_13 : decode cX1_lack 13 = .ok (.iand, 1) := by decide +kernel
theorem dX1_lack_14 : decode cX1_lack 14 = .ok (.invokevirtual 86, 3) := by decide +kernel
theorem dX1_lack_17 : decode cX1_lack 17 = .ok (.ireturn, 1) := by decide +kernel
theorem dX1_slow_0 : decode cX1_slow 0 = .ok (.aload_n 0, 1) := by decide +kernel
theorem dX1_slow_1 : decode cX1_slow 1 = .ok (.getfield 21, 3) := by decide +kernel
theorem dX1_slow_4 : decode cX1_slow 4 = .ok (.iload_n 1, 1) := by decide +kernel
theorem dX1_slow_5 : decode cX1_slow 5 = .ok (.iaload, 1) := by decide +kernel
theorem dX1_slow_6 : decode cX1_slow 6 = .ok (.aload_n 0, 1) := by decide +kernel
theorem dX1_slow_7 : decode cX1_slow 7 = .ok (.getfield 24, 3) := by decide +kernel
theorem dX1_slow_10 : decode cX1_slow 10 = .ok (.iload_n 1, 1) := by decide +kernel
theorem dX1_slow_11 : decode cX1_slow 11 = .ok (.iaload, 1) := by decide +kernel
theorem dX1_slow_12 : decode cX1_slow 12 = .ok (.iconst (-1), 1) := by decide +kernel
theorem dX1_slow_13 : decode cX1_slow 13 = .ok (.ixor, 1) := by decide +kernel
theorem dX1_slow_14 : decode cX1_slow 14 = .ok (.iand, 1) := by decide +kernel
theorem dX1_slow_15 : decode cX1_slow 15 = .ok (.invokestatic 94, 3) := by decide +kernel
theorem dX1_slow_18 : decode cX1_slow 18 = .ok (.ireturn, 1) := by decide +kernel
theorem dX1_owed_0 : decode cX1_owed 0 = .ok (.aload_n 0, 1) := by decide +kernel
theorem dX1_owed_1 : decode cX1_owed 1 = .ok (.aload_n 0, 1) := by decide +kernel
theorem dX1_owed_2 : decode cX1_owed 2 = .ok (.iload_n 1, 1) := by decide +kernel
theorem dX1_owed_3 : decode cX1_owed 3 = .ok (.invokevirtual 99, 3) := by decide +kernel
theorem dX1_owed_6 : decode cX1_owed 6 = .ok (.aload_n 0, 1) := by decide +kernel
theorem dX1_owed_7 : decode cX1_owed 7 = .ok (.getfield 21, 3) := by decide +kernel
theorem dX1_owed_10 : decode cX1_owed 10 = .ok (.iload_n 2, 1) := by decide +kernel
theorem dX1_owed_11 : decode cX1_owed 11 = .ok (.iaload, 1) := by decide +kernel
theorem dX1_owed_12 : decode cX1_owed 12 = .ok (.iconst (-1), 1) := by decide +kernel
theorem dX1_owed_13 : decode cX1_owed 13 = .ok (.ixor, 1) := by decide +kernel
theorem dX1_owed_14 : decode cX1_owed 14 = .ok (.iand, 1) := by decide +kernel
theorem dX1_owed_15 : decode cX1_owed 15 = .ok (.invokevirtual 86, 3) := by decide +kernel
theorem dX1_owed_18 : decode cX1_owed 18 = .ok (.ireturn, 1) := by decide +kernel
theorem dX1_left_0 : decode cX1_left 0 = .ok (.aload_n 0, 1) := by decide +kernel
theorem dX1_left_1 : decode cX1_left 1 = .ok (.getfield 30, 3) := by decide +kernel
theorem dX1_left_4 : decode cX1_left 4 = .ok (.iload_n 2, 1) := by decide +kernel
theorem dX1_left_5 : decode cX1_left 5 = .ok (.iload_n 1, 1) := by decide +kernel
theorem dX1_left_6 : decode cX1_left 6 = .ok (.invokestatic 74, 3) := by decide +kernel
theorem dX1_left_9 : decode cX1_left 9 = .ok (.iaload, 1) := by decide +kernel
theorem dX1_left_10 : decode cX1_left 10 = .ok (.aload_n 0, 1) := by decide +kernel
theorem dX1_left_11 : decode cX1_left 11 = .ok (.iload_n 1, 1) := by decide +kernel
theorem dX1_left_12 : decode cX1_left 12 = .ok (.iload_n 2, 1) := by decide +kernel
theorem dX1_left_13 : decode cX1_left 13 = .ok (.invokevirtual 102, 3) := by decide +kernel
theorem dX1_left_16 : decode cX1_left 16 = .ok (.isub, 1) := by decide +kernel
theorem dX1_left_17 : decode cX1_left 17 = .ok (.ireturn, 1) := by decide +kernel
theorem dX1_spare_0 : decode cX1_spare 0 = .ok (.bipush 99, 2) := by decide +kernel
theorem dX1_spare_2 : decode cX1_spare 2 = .ok (.istore_n 2, 1) := by decide +kernel
theorem dX1_spare_3 : decode cX1_spare 3 = .ok (.iconst 0, 1) := by decide +kernel
theorem dX1_spare_4 : decode cX1_spare 4 = .ok (.istore_n 3, 1) := by decide +kernel
theorem dX1_spare_5 : decode cX1_spare 5 = .ok (.iload_n 3, 1) := by decide +kernel
theorem dX1_spare_6 : decode cX1_spare 6 = .ok (.aload_n 0, 1) := by decide +kernel
theorem dX1_spare_7 : decode cX1_spare 7 = .ok (.getfield 48, 3) := by decide +kernel
theorem dX1_spare_10 : decode cX1_spare 10 = .ok (.if_icmp .ge 25, 3) := by decide +kernel
theorem dX1_spare_13 : decode cX1_spare 13 = .ok (.iload_n 3, 1) := by decide +kernel
theorem dX1_spare_14 : decode cX1_spare 14 = .ok (.iload_n 1, 1) := by decide +kernel
theorem dX1_spare_15 : decode cX1_spare 15 = .ok (.if_icmp .eq 14, 3) := by decide +kernel
theorem dX1_spare_18 : decode cX1_spare 18 = .ok (.iload_n 2, 1) := by decide +kernel
theorem dX1_spare_19 : decode cX1_spare 19 = .ok (.aload_n 0, 1) := by decide +kernel
theorem dX1_spare_20 : decode cX1_spare 20 = .ok (.iload_n 1, 1) := by decide +kernel
theorem dX1_spare_21 : decode cX1_spare 21 = .ok (.iload_n 3, 1) := by decide +kernel
theorem dX1_spare_22 : decode cX1_spare 22 = .ok (.invokevirtual 105, 3) := by decide +kernel
theorem dX1_spare_25 : decode cX1_spare 25 = .ok (.invokestatic 108, 3) := by decide +kernel
theorem dX1_spare_28 : decode cX1_spare 28 = .ok (.istore_n 2, 1) := by decide +kernel
theorem dX1_spare_29 : decode cX1_spare 29 = .ok (.iinc 3 1, 3) := by decide +kernel
theorem dX1_spare_32 : decode cX1_spare 32 = .ok (.goto (-27), 3) := by decide +kernel
theorem dX1_spare_35 : decode cX1_spare 35 = .ok (.iload_n 2, 1) := by decide +kernel
theorem dX1_spare_36 : decode cX1_spare 36 = .ok (.ireturn, 1) := by decide +kernel
theorem dX1_copiesWith_0 : decode cX1_copiesWith 0 = .ok (.iconst 0, 1) := by decide +kernel
theorem dX1_copiesWith_1 : decode cX1_copiesWith 1 = .ok (.istore_n 3, 1) := by decide +kernel
theorem dX1_copiesWith_2 : decode cX1_copiesWith 2 = .ok (.iconst 0, 1) := by decide +kernel
theorem dX1_copiesWith_3 : decode cX1_copiesWith 3 = .ok (.istore 4, 2) := by decide +kernel
theorem dX1_copiesWith_5 : decode cX1_copiesWith 5 = .ok (.iload 4, 2) := by decide +kernel
theorem dX1_copiesWith_7 : decode cX1_copiesWith 7 = .ok (.aload_n 0, 1) := by decide +kernel
theorem dX1_copiesWith_8 : decode cX1_copiesWith 8 = .ok (.getfield 48, 3) := by decide +kernel
theorem dX1_copiesWith_11 : decode cX1_copiesWith 11 = .ok (.if_icmp .ge 26, 3) := by decide +kernel
theorem dX1_copiesWith_14 : decode cX1_copiesWith 14 = .ok (.aload_n 1, 1) := by decide +kernel
theorem dX1_copiesWith_15 : decode cX1_copiesWith 15 = .ok (.iload 4, 2) := by decide +kernel
theorem dX1_copiesWith_17 : decode cX1_copiesWith 17 = .ok (.iaload, 1) := by decide +kernel
theorem dX1_copiesWith_18 : decode cX1_copiesWith 18 = .ok (.iload_n 2, 1) := by decide +kernel
theorem dX1_copiesWith_19 : decode cX1_copiesWith 19 = .ok (.iand, 1) := by decide +kernel
theorem dX1_copiesWith_20 : decode cX1_copiesWith 20 = .ok (.iload_n 2, 1) := by decide +kernel
theorem dX1_copiesWith_21 : decode cX1_copiesWith 21 = .ok (.if_icmp .ne 10, 3) := by decide +kernel
theorem dX1_copiesWith_24 : decode cX1_copiesWith 24 = .ok (.iload_n 3, 1) := by decide +kernel
theorem dX1_copiesWith_25 : decode cX1_copiesWith 25 = .ok (.iconst 1, 1) := by decide +kernel
theorem dX1_copiesWith_26 : decode cX1_copiesWith 26 = .ok (.iload 4, 2) := by decide +kernel
theorem dX1_copiesWith_28 : decode cX1_copiesWith 28 = .ok (.ishl, 1) := by decide +kernel
theorem dX1_copiesWith_29 : decode cX1_copiesWith 29 = .ok (.ior, 1) := by decide +kernel
theorem dX1_copiesWith_30 : decode cX1_copiesWith 30 = .ok (.istore_n 3, 1) := by decide +kernel
theorem dX1_copiesWith_31 : decode cX1_copiesWith 31 = .ok (.iinc 4 1, 3) := by decide +kernel
theorem dX1_copiesWith_34 : decode cX1_copiesWith 34 = .ok (.goto (-29), 3) := by decide +kernel
theorem dX1_copiesWith_37 : decode cX1_copiesWith 37 = .ok (.iload_n 3, 1) := by decide +kernel
theorem dX1_copiesWith_38 : decode cX1_copiesWith 38 = .ok (.ireturn, 1) := by decide +kernel
theorem dX1_pushesFor_0 : decode cX1_pushesFor 0 = .ok (.iconst 0, 1) := by decide +kernel
theorem dX1_pushesFor_1 : decode cX1_pushesFor 1 = .ok (.istore_n 3, 1) := by decide +kernel
theorem dX1_pushesFor_2 : decode cX1_pushesFor 2 = .ok (.iconst 0, 1) := by decide +kernel
theorem dX1_pushesFor_3 : decode cX1_pushesFor 3 = .ok (.istore 4, 2) := by decide +kernel
theorem dX1_pushesFor_5 : decode cX1_pushesFor 5 = .ok (.iload 4, 2) := by decide +kernel
theorem dX1_pushesFor_7 : decode cX1_pushesFor 7 = .ok (.aload_n 0, 1) := by decide +kernel
theorem dX1_pushesFor_8 : decode cX1_pushesFor 8 = .ok (.getfield 48, 3) := by decide +kernel
theorem dX1_pushesFor_11 : decode cX1_pushesFor 11 = .ok (.if_icmp .ge 29, 3) := by decide +kernel
theorem dX1_pushesFor_14 : decode cX1_pushesFor 14 = .ok (.iload 4, 2) := by decide +kernel
theorem dX1_pushesFor_16 : decode cX1_pushesFor 16 = .ok (.iload_n 1, 1) := by decide +kernel
theorem dX1_pushesFor_17 : decode cX1_pushesFor 17 = .ok (.if_icmp .eq 17, 3) := by decide +kernel
theorem dX1_pushesFor_20 : decode cX1_pushesFor 20 = .ok (.aload_n 0, 1) := by decide +kernel
theorem dX1_pushesFor_21 : decode cX1_pushesFor 21 = .ok (.iload_n 1, 1) := by decide +kernel
theorem dX1_pushesFor_22 : decode cX1_pushesFor 22 = .ok (.iload 4, 2) := by decide +kernel
theorem dX1_pushesFor_24 : decode cX1_pushesFor 24 = .ok (.invokevirtual 105, 3) := by decide +kernel
theorem dX1_pushesFor_27 : decode cX1_pushesFor 27 = .ok (.iload_n 2, 1) := by decide +kernel
theorem dX1_pushesFor_28 : decode cX1_pushesFor 28 = .ok (.if_icmp .ge 6, 3) := by decide +kernel
theorem dX1_pushesFor_31 : decode cX1_pushesFor 31 = .ok (.iinc 3 1, 3) := by decide +kernel
theorem dX1_pushesFor_34 : decode cX1_pushesFor 34 = .ok (.iinc 4 1, 3) := by decide +kernel
theorem dX1_pushesFor_37 : decode cX1_pushesFor 37 = .ok (.goto (-32), 3) := by decide +kernel
theorem dX1_pushesFor_40 : decode cX1_pushesFor 40 = .ok (.iload_n 3, 1) := by decide +kernel
theorem dX1_pushesFor_41 : decode cX1_pushesFor 41 = .ok (.ireturn, 1) := by decide +kernel
theorem dX1_accept_0 : decode cX1_accept 0 = .ok (.aload_n 0, 1) := by decide +kernel
theorem dX1_accept_1 : decode cX1_accept 1 = .ok (.getfield 33, 3) := by decide +kernel
theorem dX1_accept_4 : decode cX1_accept 4 = .ok (.aload_n 0, 1) := by decide +kernel
theorem dX1_accept_5 : decode cX1_accept 5 = .ok (.getfield 55, 3) := by decide +kernel
theorem dX1_accept_8 : decode cX1_accept 8 = .ok (.iload_n 1, 1) := by decide +kernel
theorem dX1_accept_9 : decode cX1_accept 9 = .ok (.iastore, 1) := by decide +kernel
theorem dX1_accept_10 : decode cX1_accept 10 = .ok (.aload_n 0, 1) := by decide +kernel
theorem dX1_accept_11 : decode cX1_accept 11 = .ok (.getfield 36, 3) := by decide +kernel
theorem dX1_accept_14 : decode cX1_accept 14 = .ok (.aload_n 0, 1) := by decide +kernel
theorem dX1_accept_15 : decode cX1_accept 15 = .ok (.getfield 55, 3) := by decide +kernel
theorem dX1_accept_18 : decode cX1_accept 18 = .ok (.aload_n 0, 1) := by decide +kernel
theorem dX1_accept_19 : decode cX1_accept 19 = .ok (.getfield 52, 3) := by decide +kernel
theorem dX1_accept_22 : decode cX1_accept 22 = .ok (.iastore, 1) := by decide +kernel
theorem dX1_accept_23 : decode cX1_accept 23 = .ok (.aload_n 0, 1) := by decide +kernel
theorem dX1_accept_24 : decode cX1_accept 24 = .ok (.getfield 39, 3) := by decide +kernel
theorem dX1_accept_27 : decode cX1_accept 27 = .ok (.aload_n 0, 1) := by decide +kernel
theorem dX1_accept_28 : decode cX1_accept 28 = .ok (.getfield 55, 3) := by decide +kernel
theorem dX1_accept_31 : decode cX1_accept 31 = .ok (.iload_n 2, 1) := by decide +kernel
theorem dX1_accept_32 : decode cX1_accept 32 = .ok (.iastore, 1) := by decide +kernel
theorem dX1_accept_33 : decode cX1_accept 33 = .ok (.aload_n 0, 1) := by decide +kernel
theorem dX1_accept_34 : decode cX1_accept 34 = .ok (.iload_n 1, 1) := by decide +kernel
theorem dX1_accept_35 : decode cX1_accept 35 = .ok (.iconst 1, 1) := by decide +kernel
theorem dX1_accept_36 : decode cX1_accept 36 = .ok (.aload_n 0, 1) := by decide +kernel
theorem dX1_accept_37 : decode cX1_accept 37 = .ok (.getfield 55, 3) := by decide +kernel
theorem dX1_accept_40 : decode cX1_accept 40 = .ok (.ishl, 1) := by decide +kernel
theorem dX1_accept_41 : decode cX1_accept 41 = .ok (.invokevirtual 113, 3) := by decide +kernel
theorem dX1_accept_44 : decode cX1_accept 44 = .ok (.aload_n 0, 1) := by decide +kernel
theorem dX1_accept_45 : decode cX1_accept 45 = .ok (.dup, 1) := by decide +kernel
theorem dX1_accept_46 : decode cX1_accept 46 = .ok (.getfield 55, 3) := by decide +kernel
theorem dX1_accept_49 : decode cX1_accept 49 = .ok (.iconst 1, 1) := by decide +kernel
theorem dX1_accept_50 : decode cX1_accept 50 = .ok (.iadd, 1) := by decide +kernel
theorem dX1_accept_51 : decode cX1_accept 51 = .ok (.putfield 55, 3) := by decide +kernel
theorem dX1_accept_54 : decode cX1_accept 54 = .ok (.iconst 0, 1) := by decide +kernel
theorem dX1_accept_55 : decode cX1_accept 55 = .ok (.istore_n 3, 1) := by decide +kernel
theorem dX1_accept_56 : decode cX1_accept 56 = .ok (.iconst 0, 1) := by decide +kernel
theorem dX1_accept_57 : decode cX1_accept 57 = .ok (.istore 4, 2) := by decide +kernel
theorem dX1_accept_59 : decode cX1_accept 59 = .ok (.iload 4, 2) := by decide +kernel
theorem dX1_accept_61 : decode cX1_accept 61 = .ok (.aload_n 0, 1) := by decide +kernel
theorem dX1_accept_62 : decode cX1_accept 62 = .ok (.getfield 48, 3) := by decide +kernel
theorem dX1_accept_65 : decode cX1_accept 65 = .ok (.if_icmp .ge 28, 3) := by decide +kernel
theorem dX1_accept_68 : decode cX1_accept 68 = .ok (.iload 4, 2) := by decide +kernel
theorem dX1_accept_70 : decode cX1_accept 70 = .ok (.iload_n 1, 1) := by decide +kernel
theorem dX1_accept_71 : decode cX1_accept 71 = .ok (.if_icmp .eq 16, 3) := by decide +kernel
theorem dX1_accept_74 : decode cX1_accept 74 = .ok (.aload_n 0, 1) := by decide +kernel
theorem dX1_accept_75 : decode cX1_accept 75 = .ok (.iload_n 1, 1) := by decide +kernel
theorem dX1_accept_76 : decode cX1_accept 76 = .ok (.iload 4, 2) := by decide +kernel
theorem dX1_accept_78 : decode cX1_accept 78 = .ok (.invokevirtual 117, 3) := by decide +kernel
theorem dX1_accept_81 : decode cX1_accept 81 = .ok (.ifCond .eq 6, 3) := by decide +kernel
theorem dX1_accept_84 : decode cX1_accept 84 = .ok (.iinc 3 1, 3) := by decide +kernel
theorem dX1_accept_87 : decode cX1_accept 87 = .ok (.iinc 4 1, 3) := by decide +kernel
theorem dX1_accept_90 : decode cX1_accept 90 = .ok (.goto (-31), 3) := by decide +kernel
theorem dX1_accept_93 : decode cX1_accept 93 = .ok (.iload_n 3, 1) := by decide +kernel
theorem dX1_accept_94 : decode cX1_accept 94 = .ok (.ireturn, 1) := by decide +kernel
theorem dX1_pushIfOver_0 : decode cX1_pushIfOver 0 = .ok (.aload_n 0, 1) := by decide +kernel
theorem dX1_pushIfOver_1 : decode cX1_pushIfOver 1 = .ok (.iload_n 1, 1) := by decide +kernel
theorem dX1_pushIfOver_2 : decode cX1_pushIfOver 2 = .ok (.iload_n 2, 1) := by decide +kernel
theorem dX1_pushIfOver_3 : decode cX1_pushIfOver 3 = .ok (.invokevirtual 105, 3) := by decide +kernel
theorem dX1_pushIfOver_6 : decode cX1_pushIfOver 6 = .ok (.ifCond .lt 5, 3) := by decide +kernel
theorem dX1_pushIfOver_9 : decode cX1_pushIfOver 9 = .ok (.iconst 0, 1) := by decide +kernel
theorem dX1_pushIfOver_10 : decode cX1_pushIfOver 10 = .ok (.ireturn, 1) := by decide +kernel
theorem dX1_pushIfOver_11 : decode cX1_pushIfOver 11 = .ok (.aload_n 0, 1) := by decide +kernel
theorem dX1_pushIfOver_12 : decode cX1_pushIfOver 12 = .ok (.iload_n 2, 1) := by decide +kernel
theorem dX1_pushIfOver_13 : decode cX1_pushIfOver 13 = .ok (.aload_n 0, 1) := by decide +kernel
theorem dX1_pushIfOver_14 : decode cX1_pushIfOver 14 = .ok (.iload_n 1, 1) := by decide +kernel
theorem dX1_pushIfOver_15 : decode cX1_pushIfOver 15 = .ok (.invokevirtual 99, 3) := by decide +kernel
theorem dX1_pushIfOver_18 : decode cX1_pushIfOver 18 = .ok (.invokevirtual 113, 3) := by decide +kernel
theorem dX1_pushIfOver_21 : decode cX1_pushIfOver 21 = .ok (.aload_n 0, 1) := by decide +kernel
theorem dX1_pushIfOver_22 : decode cX1_pushIfOver 22 = .ok (.getfield 27, 3) := by decide +kernel
theorem dX1_pushIfOver_25 : decode cX1_pushIfOver 25 = .ok (.iload_n 2, 1) := by decide +kernel
theorem dX1_pushIfOver_26 : decode cX1_pushIfOver 26 = .ok (.iload_n 1, 1) := by decide +kernel
theorem dX1_pushIfOver_27 : decode cX1_pushIfOver 27 = .ok (.invokestatic 74, 3) := by decide +kernel
theorem dX1_pushIfOver_30 : decode cX1_pushIfOver 30 = .ok (.aload_n 0, 1) := by decide +kernel
theorem dX1_pushIfOver_31 : decode cX1_pushIfOver 31 = .ok (.getfield 52, 3) := by decide +kernel
theorem dX1_pushIfOver_34 : decode cX1_pushIfOver 34 = .ok (.iastore, 1) := by decide +kernel
theorem dX1_pushIfOver_35 : decode cX1_pushIfOver 35 = .ok (.iconst 1, 1) := by decide +kernel
theorem dX1_pushIfOver_36 : decode cX1_pushIfOver 36 = .ok (.ireturn, 1) := by decide +kernel
theorem dX1_learn_0 : decode cX1_learn 0 = .ok (.aload_n 0, 1) := by decide +kernel
theorem dX1_learn_1 : decode cX1_learn 1 = .ok (.getfield 21, 3) := by decide +kernel
theorem dX1_learn_4 : decode cX1_learn 4 = .ok (.iload_n 1, 1) := by decide +kernel
theorem dX1_learn_5 : decode cX1_learn 5 = .ok (.dup2, 1) := by decide +kernel
theorem dX1_learn_6 : decode cX1_learn 6 = .ok (.iaload, 1) := by decide +kernel
theorem dX1_learn_7 : decode cX1_learn 7 = .ok (.iload_n 2, 1) := by decide +kernel
theorem dX1_learn_8 : decode cX1_learn 8 = .ok (.ior, 1) := by decide +kernel
theorem dX1_learn_9 : decode cX1_learn 9 = .ok (.iastore, 1) := by decide +kernel
theorem dX1_learn_10 : decode cX1_learn 10 = .ok (.aload_n 0, 1) := by decide +kernel
theorem dX1_learn_11 : decode cX1_learn 11 = .ok (.getfield 24, 3) := by decide +kernel
theorem dX1_learn_14 : decode cX1_learn 14 = .ok (.iconst 0, 1) := by decide +kernel
theorem dX1_learn_15 : decode cX1_learn 15 = .ok (.aload_n 0, 1) := by decide +kernel
theorem dX1_learn_16 : decode cX1_learn 16 = .ok (.getfield 21, 3) := by decide +kernel
theorem dX1_learn_19 : decode cX1_learn 19 = .ok (.iconst 0, 1) := by decide +kernel
theorem dX1_learn_20 : decode cX1_learn 20 = .ok (.iaload, 1) := by decide +kernel
theorem dX1_learn_21 : decode cX1_learn 21 = .ok (.iastore, 1) := by decide +kernel
theorem dX1_learn_22 : decode cX1_learn 22 = .ok (.return_, 1) := by decide +kernel
theorem dX1_pull_0 : decode cX1_pull 0 = .ok (.aload_n 0, 1) := by decide +kernel
theorem dX1_pull_1 : decode cX1_pull 1 = .ok (.iload_n 1, 1) := by decide +kernel
theorem dX1_pull_2 : decode cX1_pull 2 = .ok (.aload_n 0, 1) := by decide +kernel
theorem dX1_pull_3 : decode cX1_pull 3 = .ok (.getfield 21, 3) := by decide +kernel
theorem dX1_pull_6 : decode cX1_pull 6 = .ok (.iload_n 2, 1) := by decide +kernel
theorem dX1_pull_7 : decode cX1_pull 7 = .ok (.iaload, 1) := by decide +kernel
theorem dX1_pull_8 : decode cX1_pull 8 = .ok (.invokevirtual 113, 3) := by decide +kernel
theorem dX1_pull_11 : decode cX1_pull 11 = .ok (.aload_n 0, 1) := by decide +kernel
theorem dX1_pull_12 : decode cX1_pull 12 = .ok (.getfield 24, 3) := by decide +kernel
theorem dX1_pull_15 : decode cX1_pull 15 = .ok (.iload_n 1, 1) := by decide +kernel
theorem dX1_pull_16 : decode cX1_pull 16 = .ok (.dup2, 1) := by decide +kernel
theorem dX1_pull_17 : decode cX1_pull 17 = .ok (.iaload, 1) := by decide +kernel
theorem dX1_pull_18 : decode cX1_pull 18 = .ok (.aload_n 0, 1) := by decide +kernel
theorem dX1_pull_19 : decode cX1_pull 19 = .ok (.getfield 24, 3) := by decide +kernel
theorem dX1_pull_22 : decode cX1_pull 22 = .ok (.iload_n 2, 1) := by decide +kernel
theorem dX1_pull_23 : decode cX1_pull 23 = .ok (.iaload, 1) := by decide +kernel
theorem dX1_pull_24 : decode cX1_pull 24 = .ok (.ior, 1) := by decide +kernel
theorem dX1_pull_25 : decode cX1_pull 25 = .ok (.iastore, 1) := by decide +kernel
theorem dX1_pull_26 : decode cX1_pull 26 = .ok (.aload_n 0, 1) := by decide +kernel
theorem dX1_pull_27 : decode cX1_pull 27 = .ok (.getfield 27, 3) := by decide +kernel
theorem dX1_pull_30 : decode cX1_pull 30 = .ok (.iload_n 1, 1) := by decide +kernel
theorem dX1_pull_31 : decode cX1_pull 31 = .ok (.iload_n 2, 1) := by decide +kernel
theorem dX1_pull_32 : decode cX1_pull 32 = .ok (.invokestatic 74, 3) := by decide +kernel
theorem dX1_pull_35 : decode cX1_pull 35 = .ok (.aload_n 0, 1) := by decide +kernel
theorem dX1_pull_36 : decode cX1_pull 36 = .ok (.getfield 52, 3) := by decide +kernel
theorem dX1_pull_39 : decode cX1_pull 39 = .ok (.iastore, 1) := by decide +kernel
theorem dX1_pull_40 : decode cX1_pull 40 = .ok (.iconst 0, 1) := by decide +kernel
theorem dX1_pull_41 : decode cX1_pull 41 = .ok (.istore_n 3, 1) := by decide +kernel
theorem dX1_pull_42 : decode cX1_pull 42 = .ok (.iload_n 3, 1) := by decide +kernel
theorem dX1_pull_43 : decode cX1_pull 43 = .ok (.aload_n 0, 1) := by decide +kernel
theorem dX1_pull_44 : decode cX1_pull 44 = .ok (.getfield 48, 3) := by decide +kernel
theorem dX1_pull_47 : decode cX1_pull 47 = .ok (.if_icmp .ge 52, 3) := by decide +kernel
theorem dX1_pull_50 : decode cX1_pull 50 = .ok (.iload_n 3, 1) := by decide +kernel
theorem dX1_pull_51 : decode cX1_pull 51 = .ok (.iload_n 1, 1) := by decide +kernel
theorem dX1_pull_52 : decode cX1_pull 52 = .ok (.if_icmp .eq 41, 3) := by decide +kernel
theorem dX1_pull_55 : decode cX1_pull 55 = .ok (.iload_n 3, 1) := by decide +kernel
theorem dX1_pull_56 : decode cX1_pull 56 = .ok (.iload_n 2, 1) := by decide +kernel
theorem dX1_pull_57 : decode cX1_pull 57 = .ok (.if_icmp .eq 36, 3) := by decide +kernel
theorem dX1_pull_60 : decode cX1_pull 60 = .ok (.aload_n 0, 1) := by decide +kernel
theorem dX1_pull_61 : decode cX1_pull 61 = .ok (.getfield 27, 3) := by decide +kernel
theorem dX1_pull_64 : decode cX1_pull 64 = .ok (.iload_n 1, 1) := by decide +kernel
theorem dX1_pull_65 : decode cX1_pull 65 = .ok (.iload_n 3, 1) := by decide +kernel
theorem dX1_pull_66 : decode cX1_pull 66 = .ok (.invokestatic 74, 3) := by decide +kernel
theorem dX1_pull_69 : decode cX1_pull 69 = .ok (.aload_n 0, 1) := by decide +kernel
theorem dX1_pull_70 : decode cX1_pull 70 = .ok (.getfield 27, 3) := by decide +kernel
theorem dX1_pull_73 : decode cX1_pull 73 = .ok (.iload_n 1, 1) := by decide +kernel
theorem dX1_pull_74 : decode cX1_pull 74 = .ok (.iload_n 3, 1) := by decide +kernel
theorem dX1_pull_75 : decode cX1_pull 75 = .ok (.invokestatic 74, 3) := by decide +kernel
theorem dX1_pull_78 : decode cX1_pull 78 = .ok (.iaload, 1) := by decide +kernel
theorem dX1_pull_79 : decode cX1_pull 79 = .ok (.aload_n 0, 1) := by decide +kernel
theorem dX1_pull_80 : decode cX1_pull 80 = .ok (.getfield 27, 3) := by decide +kernel
theorem dX1_pull_83 : decode cX1_pull 83 = .ok (.iload_n 2, 1) := by decide +kernel
theorem dX1_pull_84 : decode cX1_pull 84 = .ok (.iload_n 3, 1) := by decide +kernel
theorem dX1_pull_85 : decode cX1_pull 85 = .ok (.invokestatic 74, 3) := by decide +kernel
theorem dX1_pull_88 : decode cX1_pull 88 = .ok (.iaload, 1) := by decide +kernel
theorem dX1_pull_89 : decode cX1_pull 89 = .ok (.invokestatic 120, 3) := by decide +kernel
theorem dX1_pull_92 : decode cX1_pull 92 = .ok (.iastore, 1) := by decide +kernel
theorem dX1_pull_93 : decode cX1_pull 93 = .ok (.iinc 3 1, 3) := by decide +kernel
theorem dX1_pull_96 : decode cX1_pull 96 = .ok (.goto (-54), 3) := by decide +kernel
theorem dX1_pull_99 : decode cX1_pull 99 = .ok (.return_, 1) := by decide +kernel
theorem dX1_read_0 : decode cX1_read 0 = .ok (.iconst 0, 1) := by decide +kernel
theorem dX1_read_1 : decode cX1_read 1 = .ok (.istore_n 2, 1) := by decide +kernel
theorem dX1_read_2 : decode cX1_read 2 = .ok (.iconst 0, 1) := by decide +kernel
theorem dX1_read_3 : decode cX1_read 3 = .ok (.istore_n 3, 1) := by decide +kernel
theorem dX1_read_4 : decode cX1_read 4 = .ok (.iload_n 3, 1) := by decide +kernel
theorem dX1_read_5 : decode cX1_read 5 = .ok (.aload_n 0, 1) := by decide +kernel
theorem dX1_read_6 : decode cX1_read 6 = .ok (.getfield 48, 3) := by decide +kernel
theorem dX1_read_9 : decode cX1_read 9 = .ok (.if_icmp .ge 47, 3) := by decide +kernel
theorem dX1_read_12 : decode cX1_read 12 = .ok (.iload_n 3, 1) := by decide +kernel
theorem dX1_read_13 : decode cX1_read 13 = .ok (.iload_n 1, 1) := by decide +kernel
theorem dX1_read_14 : decode cX1_read 14 = .ok (.if_icmp .eq 36, 3) := by decide +kernel
theorem dX1_read_17 : decode cX1_read 17 = .ok (.aload_n 0, 1) := by decide +kernel
theorem dX1_read_18 : decode cX1_read 18 = .ok (.getfield 52, 3) := by decide +kernel
theorem dX1_read_21 : decode cX1_read 21 = .ok (.aload_n 0, 1) := by decide +kernel
theorem dX1_read_22 : decode cX1_read 22 = .ok (.getfield 27, 3) := by decide +kernel
theorem dX1_read_25 : decode cX1_read 25 = .ok (.iload_n 1, 1) := by decide +kernel
theorem dX1_read_26 : decode cX1_read 26 = .ok (.iload_n 3, 1) := by decide +kernel
theorem dX1_read_27 : decode cX1_read 27 = .ok (.invokestatic 74, 3) := by decide +kernel
theorem dX1_read_30 : decode cX1_read 30 = .ok (.iaload, 1) := by decide +kernel
theorem dX1_read_31 : decode cX1_read 31 = .ok (.isub, 1) := by decide +kernel
theorem dX1_read_32 : decode cX1_read 32 = .ok (.aload_n 0, 1) := by decide +kernel
theorem dX1_read_33 : decode cX1_read 33 = .ok (.getfield 18, 3) := by decide +kernel
theorem dX1_read_36 : decode cX1_read 36 = .ok (.iload_n 1, 1) := by decide +kernel
theorem dX1_read_37 : decode cX1_read 37 = .ok (.iaload, 1) := by decide +kernel
theorem dX1_read_38 : decode cX1_read 38 = .ok (.if_icmp .le 12, 3) := by decide +kernel
theorem dX1_read_41 : decode cX1_read 41 = .ok (.aload_n 0, 1) := by decide +kernel
theorem dX1_read_42 : decode cX1_read 42 = .ok (.iload_n 1, 1) := by decide +kernel
theorem dX1_read_43 : decode cX1_read 43 = .ok (.iload_n 3, 1) := by decide +kernel
theorem dX1_read_44 : decode cX1_read 44 = .ok (.invokevirtual 123, 3) := by decide +kernel
theorem dX1_read_47 : decode cX1_read 47 = .ok (.iinc 2 1, 3) := by decide +kernel
theorem dX1_read_50 : decode cX1_read 50 = .ok (.iinc 3 1, 3) := by decide +kernel
theorem dX1_read_53 : decode cX1_read 53 = .ok (.goto (-49), 3) := by decide +kernel
theorem dX1_read_56 : decode cX1_read 56 = .ok (.aload_n 0, 1) := by decide +kernel
theorem dX1_read_57 : decode cX1_read 57 = .ok (.iload_n 1, 1) := by decide +kernel
theorem dX1_read_58 : decode cX1_read 58 = .ok (.invokevirtual 126, 3) := by decide +kernel
theorem dX1_read_61 : decode cX1_read 61 = .ok (.aload_n 0, 1) := by decide +kernel
theorem dX1_read_62 : decode cX1_read 62 = .ok (.getfield 15, 3) := by decide +kernel
theorem dX1_read_65 : decode cX1_read 65 = .ok (.iload_n 1, 1) := by decide +kernel
theorem dX1_read_66 : decode cX1_read 66 = .ok (.iaload, 1) := by decide +kernel
theorem dX1_read_67 : decode cX1_read 67 = .ok (.if_icmp .le 18, 3) := by decide +kernel
theorem dX1_read_70 : decode cX1_read 70 = .ok (.aload_n 0, 1) := by decide +kernel
theorem dX1_read_71 : decode cX1_read 71 = .ok (.iconst 0, 1) := by decide +kernel
theorem dX1_read_72 : decode cX1_read 72 = .ok (.iload_n 1, 1) := by decide +kernel
theorem dX1_read_73 : decode cX1_read 73 = .ok (.invokevirtual 123, 3) := by decide +kernel
theorem dX1_read_76 : decode cX1_read 76 = .ok (.aload_n 0, 1) := by decide +kernel
theorem dX1_read_77 : decode cX1_read 77 = .ok (.iload_n 1, 1) := by decide +kernel
theorem dX1_read_78 : decode cX1_read 78 = .ok (.iconst 0, 1) := by decide +kernel
theorem dX1_read_79 : decode cX1_read 79 = .ok (.invokevirtual 123, 3) := by decide +kernel
theorem dX1_read_82 : decode cX1_read 82 = .ok (.iinc 2 2, 3) := by decide +kernel
theorem dX1_read_85 : decode cX1_read 85 = .ok (.iload_n 2, 1) := by decide +kernel
theorem dX1_read_86 : decode cX1_read 86 = .ok (.ireturn, 1) := by decide +kernel
theorem dX1_move_0 : decode cX1_move 0 = .ok (.aload_n 0, 1) := by decide +kernel
theorem dX1_move_1 : decode cX1_move 1 = .ok (.getfield 30, 3) := by decide +kernel
theorem dX1_move_4 : decode cX1_move 4 = .ok (.iload_n 1, 1) := by decide +kernel
theorem dX1_move_5 : decode cX1_move 5 = .ok (.iload_n 2, 1) := by decide +kernel
theorem dX1_move_6 : decode cX1_move 6 = .ok (.invokestatic 74, 3) := by decide +kernel
theorem dX1_move_9 : decode cX1_move 9 = .ok (.dup2, 1) := by decide +kernel
theorem dX1_move_10 : decode cX1_move 10 = .ok (.iaload, 1) := by decide +kernel
theorem dX1_move_11 : decode cX1_move 11 = .ok (.iload 4, 2) := by decide +kernel
theorem dX1_move_13 : decode cX1_move 13 = .ok (.isub, 1) := by decide +kernel
theorem dX1_move_14 : decode cX1_move 14 = .ok (.iastore, 1) := by decide +kernel
theorem dX1_move_15 : decode cX1_move 15 = .ok (.aload_n 0, 1) := by decide +kernel
theorem dX1_move_16 : decode cX1_move 16 = .ok (.getfield 30, 3) := by decide +kernel
theorem dX1_move_19 : decode cX1_move 19 = .ok (.iload_n 1, 1) := by decide +kernel
theorem dX1_move_20 : decode cX1_move 20 = .ok (.iload_n 3, 1) := by decide +kernel
theorem dX1_move_21 : decode cX1_move 21 = .ok (.invokestatic 74, 3) := by decide +kernel
theorem dX1_move_24 : decode cX1_move 24 = .ok (.dup2, 1) := by decide +kernel
theorem dX1_move_25 : decode cX1_move 25 = .ok (.iaload, 1) := by decide +kernel
theorem dX1_move_26 : decode cX1_move 26 = .ok (.iload 4, 2) := by decide +kernel
theorem dX1_move_28 : decode cX1_move 28 = .ok (.iadd, 1) := by decide +kernel
theorem dX1_move_29 : decode cX1_move 29 = .ok (.iastore, 1) := by decide +kernel
theorem dX1_move_30 : decode cX1_move 30 = .ok (.aload_n 0, 1) := by decide +kernel
theorem dX1_move_31 : decode cX1_move 31 = .ok (.getfield 30, 3) := by decide +kernel
theorem dX1_move_34 : decode cX1_move 34 = .ok (.iload_n 1, 1) := by decide +kernel
theorem dX1_move_35 : decode cX1_move 35 = .ok (.iload_n 2, 1) := by decide +kernel
theorem dX1_move_36 : decode cX1_move 36 = .ok (.invokestatic 74, 3) := by decide +kernel
theorem dX1_move_39 : decode cX1_move 39 = .ok (.iaload, 1) := by decide +kernel
theorem dX1_move_40 : decode cX1_move 40 = .ok (.ireturn, 1) := by decide +kernel
theorem dX1_even_0 : decode cX1_even 0 = .ok (.iconst 0, 1) := by decide +kernel
theorem dX1_even_1 : decode cX1_even 1 = .ok (.istore_n 2, 1) := by decide +kernel
theorem dX1_even_2 : decode cX1_even 2 = .ok (.iconst 0, 1) := by decide +kernel
theorem dX1_even_3 : decode cX1_even 3 = .ok (.istore_n 3, 1) := by decide +kernel
theorem dX1_even_4 : decode cX1_even 4 = .ok (.iload_n 3, 1) := by decide +kernel
theorem dX1_even_5 : decode cX1_even 5 = .ok (.aload_n 0, 1) := by decide +kernel
theorem dX1_even_6 : decode cX1_even 6 = .ok (.getfield 48, 3) := by decide +kernel
theorem dX1_even_9 : decode cX1_even 9 = .ok (.if_icmp .ge 23, 3) := by decide +kernel
theorem dX1_even_12 : decode cX1_even 12 = .ok (.iload_n 3, 1) := by decide +kernel
theorem dX1_even_13 : decode cX1_even 13 = .ok (.iload_n 1, 1) := by decide +kernel
theorem dX1_even_14 : decode cX1_even 14 = .ok (.if_icmp .eq 12, 3) := by decide +kernel
theorem dX1_even_17 : decode cX1_even 17 = .ok (.iload_n 2, 1) := by decide +kernel
theorem dX1_even_18 : decode cX1_even 18 = .ok (.aload_n 0, 1) := by decide +kernel
theorem dX1_even_19 : decode cX1_even 19 = .ok (.iload_n 3, 1) := by decide +kernel
theorem dX1_even_20 : decode cX1_even 20 = .ok (.iload_n 1, 1) := by decide +kernel
theorem dX1_even_21 : decode cX1_even 21 = .ok (.invokevirtual 105, 3) := by decide +kernel
theorem dX1_even_24 : decode cX1_even 24 = .ok (.iadd, 1) := by decide +kernel
theorem dX1_even_25 : decode cX1_even 25 = .ok (.istore_n 2, 1) := by decide +kernel
theorem dX1_even_26 : decode cX1_even 26 = .ok (.iinc 3 1, 3) := by decide +kernel
theorem dX1_even_29 : decode cX1_even 29 = .ok (.goto (-25), 3) := by decide +kernel
theorem dX1_even_32 : decode cX1_even 32 = .ok (.iconst 0, 1) := by decide +kernel
theorem dX1_even_33 : decode cX1_even 33 = .ok (.istore_n 3, 1) := by decide +kernel
theorem dX1_even_34 : decode cX1_even 34 = .ok (.iload_n 3, 1) := by decide +kernel
theorem dX1_even_35 : decode cX1_even 35 = .ok (.aload_n 0, 1) := by decide +kernel
theorem dX1_even_36 : decode cX1_even 36 = .ok (.getfield 48, 3) := by decide +kernel
theorem dX1_even_39 : decode cX1_even 39 = .ok (.if_icmp .ge 38, 3) := by decide +kernel
theorem dX1_even_42 : decode cX1_even 42 = .ok (.iload_n 3, 1) := by decide +kernel
theorem dX1_even_43 : decode cX1_even 43 = .ok (.iload_n 1, 1) := by decide +kernel
theorem dX1_even_44 : decode cX1_even 44 = .ok (.if_icmp .eq 27, 3) := by decide +kernel
theorem dX1_even_47 : decode cX1_even 47 = .ok (.aload_n 0, 1) := by decide +kernel
theorem dX1_even_48 : decode cX1_even 48 = .ok (.getfield 30, 3) := by decide +kernel
theorem dX1_even_51 : decode cX1_even 51 = .ok (.iload_n 1, 1) := by decide +kernel
theorem dX1_even_52 : decode cX1_even 52 = .ok (.iload_n 3, 1) := by decide +kernel
theorem dX1_even_53 : decode cX1_even 53 = .ok (.invokestatic 74, 3) := by decide +kernel
theorem dX1_even_56 : decode cX1_even 56 = .ok (.aload_n 0, 1) := by decide +kernel
theorem dX1_even_57 : decode cX1_even 57 = .ok (.iload_n 3, 1) := by decide +kernel
theorem dX1_even_58 : decode cX1_even 58 = .ok (.iload_n 1, 1) := by decide +kernel
theorem dX1_even_59 : decode cX1_even 59 = .ok (.invokevirtual 102, 3) := by decide +kernel
theorem dX1_even_62 : decode cX1_even 62 = .ok (.aload_n 0, 1) := by decide +kernel
theorem dX1_even_63 : decode cX1_even 63 = .ok (.iload_n 2, 1) := by decide +kernel
theorem dX1_even_64 : decode cX1_even 64 = .ok (.iload_n 1, 1) := by decide +kernel
theorem dX1_even_65 : decode cX1_even 65 = .ok (.iload_n 3, 1) := by decide +kernel
theorem dX1_even_66 : decode cX1_even 66 = .ok (.invokevirtual 78, 3) := by decide +kernel
theorem dX1_even_69 : decode cX1_even 69 = .ok (.iadd, 1) := by decide +kernel
theorem dX1_even_70 : decode cX1_even 70 = .ok (.iastore, 1) := by decide +kernel
theorem dX1_even_71 : decode cX1_even 71 = .ok (.iinc 3 1, 3) := by decide +kernel
theorem dX1_even_74 : decode cX1_even 74 = .ok (.goto (-40), 3) := by decide +kernel
theorem dX1_even_77 : decode cX1_even 77 = .ok (.iload_n 2, 1) := by decide +kernel
theorem dX1_even_78 : decode cX1_even 78 = .ok (.ireturn, 1) := by decide +kernel
theorem dX1_bindAnew_0 : decode cX1_bindAnew 0 = .ok (.aload_n 0, 1) := by decide +kernel
theorem dX1_bindAnew_1 : decode cX1_bindAnew 1 = .ok (.getfield 9, 3) := by decide +kernel
theorem dX1_bindAnew_4 : decode cX1_bindAnew 4 = .ok (.iload_n 1, 1) := by decide +kernel
theorem dX1_bindAnew_5 : decode cX1_bindAnew 5 = .ok (.iaload, 1) := by decide +kernel
theorem dX1_bindAnew_6 : decode cX1_bindAnew 6 = .ok (.iload_n 2, 1) := by decide +kernel
theorem dX1_bindAnew_7 : decode cX1_bindAnew 7 = .ok (.if_icmp .eq 7, 3) := by decide +kernel
theorem dX1_bindAnew_10 : decode cX1_bindAnew 10 = .ok (.iconst 1, 1) := by decide +kernel
theorem dX1_bindAnew_11 : decode cX1_bindAnew 11 = .ok (.goto 4, 3) := by decide +kernel
theorem dX1_bindAnew_14 : decode cX1_bindAnew 14 = .ok (.iconst 0, 1) := by decide +kernel
theorem dX1_bindAnew_15 : decode cX1_bindAnew 15 = .ok (.istore 5, 2) := by decide +kernel
theorem dX1_bindAnew_17 : decode cX1_bindAnew 17 = .ok (.aload_n 0, 1) := by decide +kernel
theorem dX1_bindAnew_18 : decode cX1_bindAnew 18 = .ok (.iload_n 1, 1) := by decide +kernel
theorem dX1_bindAnew_19 : decode cX1_bindAnew 19 = .ok (.iload_n 2, 1) := by decide +kernel
theorem dX1_bindAnew_20 : decode cX1_bindAnew 20 = .ok (.iload_n 3, 1) := by decide +kernel
theorem dX1_bindAnew_21 : decode cX1_bindAnew 21 = .ok (.iload 4, 2) := by decide +kernel
theorem dX1_bindAnew_23 : decode cX1_bindAnew 23 = .ok (.invokevirtual 129, 3) := by decide +kernel
theorem dX1_bindAnew_26 : decode cX1_bindAnew 26 = .ok (.iload 5, 2) := by decide +kernel
theorem dX1_bindAnew_28 : decode cX1_bindAnew 28 = .ok (.ifCond .eq 8, 3) := by decide +kernel
theorem dX1_bindAnew_31 : decode cX1_bindAnew 31 = .ok (.aload_n 0, 1) := by decide +kernel
theorem dX1_bindAnew_32 : decode cX1_bindAnew 32 = .ok (.iload_n 1, 1) := by decide +kernel
theorem dX1_bindAnew_33 : decode cX1_bindAnew 33 = .ok (.invokevirtual 70, 3) := by decide +kernel
theorem dX1_bindAnew_36 : decode cX1_bindAnew 36 = .ok (.iconst 0, 1) := by decide +kernel
theorem dX1_bindAnew_37 : decode cX1_bindAnew 37 = .ok (.istore 6, 2) := by decide +kernel
theorem dX1_bindAnew_39 : decode cX1_bindAnew 39 = .ok (.iconst 0, 1) := by decide +kernel
theorem dX1_bindAnew_40 : decode cX1_bindAnew 40 = .ok (.istore 7, 2) := by decide +kernel
theorem dX1_bindAnew_42 : decode cX1_bindAnew 42 = .ok (.iload 7, 2) := by decide +kernel
theorem dX1_bindAnew_44 : decode cX1_bindAnew 44 = .ok (.aload_n 0, 1) := by decide +kernel
theorem dX1_bindAnew_45 : decode cX1_bindAnew 45 = .ok (.getfield 48, 3) := by decide +kernel
theorem dX1_bindAnew_48 : decode cX1_bindAnew 48 = .ok (.if_icmp .ge 28, 3) := by decide +kernel
theorem dX1_bindAnew_51 : decode cX1_bindAnew 51 = .ok (.iload 7, 2) := by decide +kernel
theorem dX1_bindAnew_53 : decode cX1_bindAnew 53 = .ok (.iload_n 1, 1) := by decide +kernel
theorem dX1_bindAnew_54 : decode cX1_bindAnew 54 = .ok (.if_icmp .eq 16, 3) := by decide +kernel
theorem dX1_bindAnew_57 : decode cX1_bindAnew 57 = .ok (.aload_n 0, 1) := by decide +kernel
theorem dX1_bindAnew_58 : decode cX1_bindAnew 58 = .ok (.iload 7, 2) := by decide +kernel
theorem dX1_bindAnew_60 : decode cX1_bindAnew 60 = .ok (.iload_n 1, 1) := by decide +kernel
theorem dX1_bindAnew_61 : decode cX1_bindAnew 61 = .ok (.invokevirtual 117, 3) := by decide +kernel
theorem dX1_bindAnew_64 : decode cX1_bindAnew 64 = .ok (.ifCond .eq 6, 3) := by decide +kernel
theorem dX1_bindAnew_67 : decode cX1_bindAnew 67 = .ok (.iinc 6 1, 3) := by decide +kernel
theorem dX1_bindAnew_70 : decode cX1_bindAnew 70 = .ok (.iinc 7 1, 3) := by decide +kernel
theorem dX1_bindAnew_73 : decode cX1_bindAnew 73 = .ok (.goto (-31), 3) := by decide +kernel
theorem dX1_bindAnew_76 : decode cX1_bindAnew 76 = .ok (.iload 6, 2) := by decide +kernel
theorem dX1_bindAnew_78 : decode cX1_bindAnew 78 = .ok (.ireturn, 1) := by decide +kernel
theorem dX2_init_0 : decode cX2_init 0 = .ok (.aload_n 0, 1) := by decide +kernel
theorem dX2_init_1 : decode cX2_init 1 = .ok (.invokespecial 3, 3) := by decide +kernel
theorem dX2_init_4 : decode cX2_init 4 = .ok (.aload_n 0, 1) := by decide +kernel
theorem dX2_init_5 : decode cX2_init 5 = .ok (.bipush 80, 2) := by decide +kernel
theorem dX2_init_7 : decode cX2_init 7 = .ok (.newarray .char, 2) := by decide +kernel
theorem dX2_init_9 : decode cX2_init 9 = .ok (.putfield 9, 3) := by decide +kernel
theorem dX2_init_12 : decode cX2_init 12 = .ok (.aload_n 0, 1) := by decide +kernel
theorem dX2_init_13 : decode cX2_init 13 = .ok (.iconst 0, 1) := by decide +kernel
theorem dX2_init_14 : decode cX2_init 14 = .ok (.putfield 15, 3) := by decide +kernel
theorem dX2_init_17 : decode cX2_init 17 = .ok (.aload_n 0, 1) := by decide +kernel
theorem dX2_init_18 : decode cX2_init 18 = .ok (.bipush 81, 2) := by decide +kernel
theorem dX2_init_20 : decode cX2_init 20 = .ok (.newarray .int, 2) := by decide +kernel
theorem dX2_init_22 : decode cX2_init 22 = .ok (.putfield 19, 3) := by decide +kernel
theorem dX2_init_25 : decode cX2_init 25 = .ok (.aload_n 0, 1) := by decide +kernel
theorem dX2_init_26 : decode cX2_init 26 = .ok (.bipush 81, 2) := by decide +kernel
theorem dX2_init_28 : decode cX2_init 28 = .ok (.newarray .int, 2) := by decide +kernel
theorem dX2_init_30 : decode cX2_init 30 = .ok (.putfield 23, 3) := by decide +kernel
theorem dX2_init_33 : decode cX2_init 33 = .ok (.aload_n 0, 1) := by decide +kernel
theorem dX2_init_34 : decode cX2_init 34 = .ok (.bipush 81, 2) := by decide +kernel
theorem dX2_init_36 : decode cX2_init 36 = .ok (.newarray .int, 2) := by decide +kernel
theorem dX2_init_38 : decode cX2_init 38 = .ok (.putfield 26, 3) := by decide +kernel
theorem dX2_init_41 : decode cX2_init 41 = .ok (.aload_n 0, 1) := by decide +kernel
theorem dX2_init_42 : decode cX2_init 42 = .ok (.iconst 0, 1) := by decide +kernel
theorem dX2_init_43 : decode cX2_init 43 = .ok (.putfield 29, 3) := by decide +kernel
theorem dX2_init_46 : decode cX2_init 46 = .ok (.return_, 1) := by decide +kernel
theorem dX2_add_0 : decode cX2_add 0 = .ok (.aload_n 0, 1) := by decide +kernel
theorem dX2_add_1 : decode cX2_add 1 = .ok (.getfield 9, 3) := by decide +kernel
theorem dX2_add_4 : decode cX2_add 4 = .ok (.aload_n 0, 1) := by decide +kernel
theorem dX2_add_5 : decode cX2_add 5 = .ok (.getfield 15, 3) := by decide +kernel
theorem dX2_add_8 : decode cX2_add 8 = .ok (.iload_n 1, 1) := by decide +kernel
theorem dX2_add_9 : decode cX2_add 9 = .ok (.castore, 1) := by decide +kernel
theorem dX2_add_10 : decode cX2_add 10 = .ok (.aload_n 0, 1) := by decide +kernel
theorem dX2_add_11 : decode cX2_add 11 = .ok (.dup, 1) := by decide +kernel
theorem dX2_add_12 : decode cX2_add 12 = .ok (.getfield 15, 3) := by decide +kernel
theorem dX2_add_15 : decode cX2_add 15 = .ok (.iconst 1, 1) := by decide +kernel
theorem dX2_add_16 : decode cX2_add 16 = .ok (.iadd, 1) := by decide +kernel
theorem dX2_add_17 : decode cX2_add 17 = .ok (.putfield 15, 3) := by decide +kernel
theorem dX2_add_20 : decode cX2_add 20 = .ok (.return_, 1) := by decide +kernel
theorem dX2_drop_0 : decode cX2_drop 0 = .ok (.aload_n 0, 1) := by decide +kernel
theorem dX2_drop_1 : decode cX2_drop 1 = .ok (.getfield 15, 3) := by decide +kernel
theorem dX2_drop_4 : decode cX2_drop 4 = .ok (.istore_n 1, 1) := by decide +kernel
theorem dX2_drop_5 : decode cX2_drop 5 = .ok (.aload_n 0, 1) := by decide +kernel
theorem dX2_drop_6 : decode cX2_drop 6 = .ok (.iconst 0, 1) := by decide +kernel
theorem dX2_drop_7 : decode cX2_drop 7 = .ok (.putfield 15, 3) := by decide +kernel
theorem dX2_drop_10 : decode cX2_drop 10 = .ok (.iload_n 1, 1) := by decide +kernel
theorem dX2_drop_11 : decode cX2_drop 11 = .ok (.ireturn, 1) := by decide +kernel
theorem dX2_tellInto_0 : decode cX2_tellInto 0 = .ok (.aload_n 0, 1) := by decide +kernel
theorem dX2_tellInto_1 : decode cX2_tellInto 1 = .ok (.invokevirtual 32, 3) := by decide +kernel
theorem dX2_tellInto_4 : decode cX2_tellInto 4 = .ok (.aload_n 1, 1) := by decide +kernel
theorem dX2_tellInto_5 : decode cX2_tellInto 5 = .ok (.invokevirtual 35, 3) := by decide +kernel
theorem dX2_tellInto_8 : decode cX2_tellInto 8 = .ok (.aload_n 0, 1) := by decide +kernel
theorem dX2_tellInto_9 : decode cX2_tellInto 9 = .ok (.iconst 0, 1) := by decide +kernel
theorem dX2_tellInto_10 : decode cX2_tellInto 10 = .ok (.putfield 29, 3) := by decide +kernel
theorem dX2_tellInto_13 : decode cX2_tellInto 13 = .ok (.iconst 0, 1) := by decide +kernel
theorem dX2_tellInto_14 : decode cX2_tellInto 14 = .ok (.istore_n 2, 1) := by decide +kernel
theorem dX2_tellInto_15 : decode cX2_tellInto 15 = .ok (.aload_n 0, 1) := by decide +kernel
theorem dX2_tellInto_16 : decode cX2_tellInto 16 = .ok (.getfield 19, 3) := by decide +kernel
theorem dX2_tellInto_19 : decode cX2_tellInto 19 = .ok (.aload_n 0, 1) := by decide +kernel
theorem dX2_tellInto_20 : decode cX2_tellInto 20 = .ok (.getfield 29, 3) := by decide +kernel
theorem dX2_tellInto_23 : decode cX2_tellInto 23 = .ok (.iaload, 1) := by decide +kernel
theorem dX2_tellInto_24 : decode cX2_tellInto 24 = .ok (.ifCond .eq 45, 3) := by decide +kernel
theorem dX2_tellInto_27 : decode cX2_tellInto 27 = .ok (.iload_n 2, 1) := by decide +kernel
theorem dX2_tellInto_28 : decode cX2_tellInto 28 = .ok (.bipush 80, 2) := by decide +kernel
theorem dX2_tellInto_30 : decode cX2_tellInto 30 = .ok (.if_icmp .ge 39, 3) := by decide +kernel
theorem dX2_tellInto_33 : decode cX2_tellInto 33 = .ok (.aload_n 0, 1) := by decide +kernel
theorem dX2_tellInto_34 : decode cX2_tellInto 34 = .ok (.aload_n 1, 1) := by decide +kernel
theorem dX2_tellInto_35 : decode cX2_tellInto 35 = .ok (.iload_n 2, 1) := by decide +kernel
theorem dX2_tellInto_36 : decode cX2_tellInto 36 = .ok (.ifCond .ne 7, 3) := by decide +kernel
theorem dX2_tellInto_39 : decode cX2_tellInto 39 = .ok (.iconst 1, 1) := by decide +kernel
theorem dX2_tellInto_40 : decode cX2_tellInto 40 = .ok (.goto 4, 3) := by decide +kernel
theorem dX2_tellInto_43 : decode cX2_tellInto 43 = .ok (.iconst 0, 1) := by decide +kernel
theorem dX2_tellInto_44 : decode cX2_tellInto 44 = .ok (.invokevirtual 40, 3) := by decide +kernel
theorem dX2_tellInto_47 : decode cX2_tellInto 47 = .ok (.ifCond .ne 16, 3) := by decide +kernel
theorem dX2_tellInto_50 : decode cX2_tellInto 50 = .ok (.bipush (-10), 2) := by decide +kernel
theorem dX2_tellInto_52 : decode cX2_tellInto 52 = .ok (.aload_n 0, 1) := by decide +kernel
theorem dX2_tellInto_53 : decode cX2_tellInto 53 = .ok (.getfield 23, 3) := by decide +kernel
theorem dX2_tellInto_56 : decode cX2_tellInto 56 = .ok (.aload_n 0, 1) := by decide +kernel
theorem dX2_tellInto_57 : decode cX2_tellInto 57 = .ok (.getfield 29, 3) := by decide +kernel
theorem dX2_tellInto_60 : decode cX2_tellInto 60 = .ok (.iaload, 1) := by decide +kernel
theorem dX2_tellInto_61 : decode cX2_tellInto 61 = .ok (.isub, 1) := by decide +kernel
theorem dX2_tellInto_62 : decode cX2_tellInto 62 = .ok (.ireturn, 1) := by decide +kernel
theorem dX2_tellInto_63 : decode cX2_tellInto 63 = .ok (.iinc 2 1, 3) := by decide +kernel
theorem dX2_tellInto_66 : decode cX2_tellInto 66 = .ok (.goto (-51), 3) := by decide +kernel
theorem dX2_tellInto_69 : decode cX2_tellInto 69 = .ok (.aload_n 1, 1) := by decide +kernel
theorem dX2_tellInto_70 : decode cX2_tellInto 70 = .ok (.invokevirtual 44, 3) := by decide +kernel
theorem dX2_tellInto_73 : decode cX2_tellInto 73 = .ok (.iload_n 2, 1) := by decide +kernel
theorem dX2_tellInto_74 : decode cX2_tellInto 74 = .ok (.ireturn, 1) := by decide +kernel
theorem dX2_tellItem_0 : decode cX2_tellItem 0 = .ok (.iload_n 2, 1) := by decide +kernel
theorem dX2_tellItem_1 : decode cX2_tellItem 1 = .ok (.ifCond .eq 17, 3) := by decide +kernel
theorem dX2_tellItem_4 : decode cX2_tellItem 4 = .ok (.aload_n 0, 1) := by decide +kernel
theorem dX2_tellItem_5 : decode cX2_tellItem 5 = .ok (.iconst 1, 1) := by decide +kernel
theorem dX2_tellItem_6 : decode cX2_tellItem 6 = .ok (.invokevirtual 47, 3) := by decide +kernel
theorem dX2_tellItem_9 : decode cX2_tellItem 9 = .ok (.ifCond .eq 9, 3) := by decide +kernel
theorem dX2_tellItem_12 : decode cX2_tellItem 12 = .ok (.aload_n 0, 1) := by decide +kernel
theorem dX2_tellItem_13 : decode cX2_tellItem 13 = .ok (.aload_n 1, 1) := by decide +kernel
theorem dX2_tellItem_14 : decode cX2_tellItem 14 = .ok (.invokevirtual 51, 3) := by decide +kernel
theorem dX2_tellItem_17 : decode cX2_tellItem 17 = .ok (.ireturn, 1) := by decide +kernel
theorem dX2_tellItem_18 : decode cX2_tellItem 18 = .ok (.aload_n 0, 1) := by decide +kernel
theorem dX2_tellItem_19 : decode cX2_tellItem 19 = .ok (.iconst 2, 1) := by decide +kernel
theorem dX2_tellItem_20 : decode cX2_tellItem 20 = .ok (.invokevirtual 47, 3) := by decide +kernel
theorem dX2_tellItem_23 : decode cX2_tellItem 23 = .ok (.ifCond .eq 15, 3) := by decide +kernel
theorem dX2_tellItem_26 : decode cX2_tellItem 26 = .ok (.aload_n 0, 1) := by decide +kernel
theorem dX2_tellItem_27 : decode cX2_tellItem 27 = .ok (.aload_n 1, 1) := by decide +kernel
theorem dX2_tellItem_28 : decode cX2_tellItem 28 = .ok (.invokevirtual 55, 3) := by decide +kernel
theorem dX2_tellItem_31 : decode cX2_tellItem 31 = .ok (.ifCond .eq 7, 3) := by decide +kernel
theorem dX2_tellItem_34 : decode cX2_tellItem 34 = .ok (.iconst 1, 1) := by decide +kernel
theorem dX2_tellItem_35 : decode cX2_tellItem 35 = .ok (.goto 4, 3) := by decide +kernel
theorem dX2_tellItem_38 : decode cX2_tellItem 38 = .ok (.iconst 0, 1) := by decide +kernel
theorem dX2_tellItem_39 : decode cX2_tellItem 39 = .ok (.ireturn, 1) := by decide +kernel
theorem dX2_tellCopies_0 : decode cX2_tellCopies 0 = .ok (.aload_n 0, 1) := by decide +kernel
theorem dX2_tellCopies_1 : decode cX2_tellCopies 1 = .ok (.iconst 2, 1) := by decide +kernel
theorem dX2_tellCopies_2 : decode cX2_tellCopies 2 = .ok (.iconst 4, 1) := by decide +kernel
theorem dX2_tellCopies_3 : decode cX2_tellCopies 3 = .ok (.invokevirtual 58, 3) := by decide +kernel
theorem dX2_tellCopies_6 : decode cX2_tellCopies 6 = .ok (.ifCond .ne 5, 3) := by decide +kernel
theorem dX2_tellCopies_9 : decode cX2_tellCopies 9 = .ok (.iconst 0, 1) := by decide +kernel
theorem dX2_tellCopies_10 : decode cX2_tellCopies 10 = .ok (.ireturn, 1) := by decide +kernel
theorem dX2_tellCopies_11 : decode cX2_tellCopies 11 = .ok (.aload_n 1, 1) := by decide +kernel
theorem dX2_tellCopies_12 : decode cX2_tellCopies 12 = .ok (.aload_n 0, 1) := by decide +kernel
theorem dX2_tellCopies_13 : decode cX2_tellCopies 13 = .ok (.getfield 26, 3) := by decide +kernel
theorem dX2_tellCopies_16 : decode cX2_tellCopies 16 = .ok (.aload_n 0, 1) := by decide +kernel
theorem dX2_tellCopies_17 : decode cX2_tellCopies 17 = .ok (.getfield 29, 3) := by decide +kernel
theorem dX2_tellCopies_20 : decode cX2_tellCopies 20 = .ok (.iconst 1, 1) := by decide +kernel
theorem dX2_tellCopies_21 : decode cX2_tellCopies 21 = .ok (.isub, 1) := by decide +kernel
theorem dX2_tellCopies_22 : decode cX2_tellCopies 22 = .ok (.iaload, 1) := by decide +kernel
theorem dX2_tellCopies_23 : decode cX2_tellCopies 23 = .ok (.putfield 62, 3) := by decide +kernel
theorem dX2_tellCopies_26 : decode cX2_tellCopies 26 = .ok (.aload_n 0, 1) := by decide +kernel
theorem dX2_tellCopies_27 : decode cX2_tellCopies 27 = .ok (.iconst 4, 1) := by decide +kernel
theorem dX2_tellCopies_28 : decode cX2_tellCopies 28 = .ok (.invokevirtual 47, 3) := by decide +kernel
theorem dX2_tellCopies_31 : decode cX2_tellCopies 31 = .ok (.ireturn, 1) := by decide +kernel
theorem dX2_tellBounds_0 : decode cX2_tellBounds 0 = .ok (.aload_n 0, 1) := by decide +kernel
theorem dX2_tellBounds_1 : decode cX2_tellBounds 1 = .ok (.iconst 0, 1) := by decide +kernel
theorem dX2_tellBounds_2 : decode cX2_tellBounds 2 = .ok (.aload_n 1, 1) := by decide +kernel
theorem dX2_tellBounds_3 : decode cX2_tellBounds 3 = .ok (.getfield 62, 3) := by decide +kernel
theorem dX2_tellBounds_6 : decode cX2_tellBounds 6 = .ok (.iconst 1, 1) := by decide +kernel
theorem dX2_tellBounds_7 : decode cX2_tellBounds 7 = .ok (.isub, 1) := by decide +kernel
theorem dX2_tellBounds_8 : decode cX2_tellBounds 8 = .ok (.invokevirtual 58, 3) := by decide +kernel
theorem dX2_tellBounds_11 : decode cX2_tellBounds 11 = .ok (.ifCond .eq 37, 3) := by decide +kernel
theorem dX2_tellBounds_14 : decode cX2_tellBounds 14 = .ok (.aload_n 0, 1) := by decide +kernel
theorem dX2_tellBounds_15 : decode cX2_tellBounds 15 = .ok (.iconst 0, 1) := by decide +kernel
theorem dX2_tellBounds_16 : decode cX2_tellBounds 16 = .ok (.bipush 99, 2) := by decide +kernel
theorem dX2_tellBounds_18 : decode cX2_tellBounds 18 = .ok (.invokevirtual 58, 3) := by decide +kernel
theorem dX2_tellBounds_21 : decode cX2_tellBounds 21 = .ok (.ifCond .eq 27, 3) := by decide +kernel
theorem dX2_tellBounds_24 : decode cX2_tellBounds 24 = .ok (.aload_n 0, 1) := by decide +kernel
theorem dX2_tellBounds_25 : decode cX2_tellBounds 25 = .ok (.iconst 0, 1) := by decide +kernel
theorem dX2_tellBounds_26 : decode cX2_tellBounds 26 = .ok (.bipush 9, 2) := by decide +kernel
theorem dX2_tellBounds_28 : decode cX2_tellBounds 28 = .ok (.invokevirtual 58, 3) := by decide +kernel
theorem dX2_tellBounds_31 : decode cX2_tellBounds 31 = .ok (.ifCond .eq 17, 3) := by decide +kernel
theorem dX2_tellBounds_34 : decode cX2_tellBounds 34 = .ok (.aload_n 0, 1) := by decide +kernel
theorem dX2_tellBounds_35 : decode cX2_tellBounds 35 = .ok (.iconst 0, 1) := by decide +kernel
theorem dX2_tellBounds_36 : decode cX2_tellBounds 36 = .ok (.bipush 99, 2) := by decide +kernel
theorem dX2_tellBounds_38 : decode cX2_tellBounds 38 = .ok (.invokevirtual 58, 3) := by decide +kernel
theorem dX2_tellBounds_41 : decode cX2_tellBounds 41 = .ok (.ifCond .eq 7, 3) := by decide +kernel
theorem dX2_tellBounds_44 : decode cX2_tellBounds 44 = .ok (.iconst 1, 1) := by decide +kernel
theorem dX2_tellBounds_45 : decode cX2_tellBounds 45 = .ok (.goto 4, 3) := by decide +kernel
theorem dX2_tellBounds_48 : decode cX2_tellBounds 48 = .ok (.iconst 0, 1) := by decide +kernel
theorem dX2_tellBounds_49 : decode cX2_tellBounds 49 = .ok (.istore_n 2, 1) := by decide +kernel
theorem dX2_tellBounds_50 : decode cX2_tellBounds 50 = .ok (.iload_n 2, 1) := by decide +kernel
theorem dX2_tellBounds_51 : decode cX2_tellBounds 51 = .ok (.ifCond .ne 5, 3) := by decide +kernel
theorem dX2_tellBounds_54 : decode cX2_tellBounds 54 = .ok (.iconst 0, 1) := by decide +kernel
theorem dX2_tellBounds_55 : decode cX2_tellBounds 55 = .ok (.ireturn, 1) := by decide +kernel
theorem dX2_tellBounds_56 : decode cX2_tellBounds 56 = .ok (.aload_n 1, 1) := by decide +kernel
theorem dX2_tellBounds_57 : decode cX2_tellBounds 57 = .ok (.aload_n 0, 1) := by decide +kernel
theorem dX2_tellBounds_58 : decode cX2_tellBounds 58 = .ok (.getfield 26, 3) := by decide +kernel
theorem dX2_tellBounds_61 : decode cX2_tellBounds 61 = .ok (.aload_n 0, 1) := by decide +kernel
theorem dX2_tellBounds_62 : decode cX2_tellBounds 62 = .ok (.getfield 29, 3) := by decide +kernel
theorem dX2_tellBounds_65 : decode cX2_tellBounds 65 = .ok (.iconst 4, 1) := by decide +kernel
theorem dX2_tellBounds_66 : decode cX2_tellBounds 66 = .ok (.isub, 1) := by decide +kernel
theorem dX2_tellBounds_67 : decode cX2_tellBounds 67 = .ok (.iaload, 1) := by decide +kernel
theorem dX2_tellBounds_68 : decode cX2_tellBounds 68 = .ok (.aload_n 0, 1) := by decide +kernel
theorem dX2_tellBounds_69 : decode cX2_tellBounds 69 = .ok (.getfield 26, 3) := by decide +kernel
theorem dX2_tellBounds_72 : decode cX2_tellBounds 72 = .ok (.aload_n 0, 1) := by decide +kernel
theorem dX2_tellBounds_73 : decode cX2_tellBounds 73 = .ok (.getfield 29, 3) := by decide +kernel
theorem dX2_tellBounds_76 : decode cX2_tellBounds 76 = .ok (.iconst 3, 1) := by decide +kernel
theorem dX2_tellBounds_77 : decode cX2_tellBounds 77 = .ok (.isub, 1) := by decide +kernel
theorem dX2_tellBounds_78 : decode cX2_tellBounds 78 = .ok (.iaload, 1) := by decide +kernel
theorem dX2_tellBounds_79 : decode cX2_tellBounds 79 = .ok (.aload_n 0, 1) := by decide +kernel
theorem dX2_tellBounds_80 : decode cX2_tellBounds 80 = .ok (.getfield 26, 3) := by decide +kernel
theorem dX2_tellBounds_83 : decode cX2_tellBounds 83 = .ok (.aload_n 0, 1) := by decide +kernel
theorem dX2_tellBounds_84 : decode cX2_tellBounds 84 = .ok (.getfield 29, 3) := by decide +kernel
theorem dX2_tellBounds_87 : decode cX2_tellBounds 87 = .ok (.iconst 2, 1) := by decide +kernel
theorem dX2_tellBounds_88 : decode cX2_tellBounds 88 = .ok (.isub, 1) := by decide +kernel
theorem dX2_tellBounds_89 : decode cX2_tellBounds 89 = .ok (.iaload, 1) := by decide +kernel
theorem dX2_tellBounds_90 : decode cX2_tellBounds 90 = .ok (.aload_n 0, 1) := by decide +kernel
theorem dX2_tellBounds_91 : decode cX2_tellBounds 91 = .ok (.getfield 26, 3) := by decide +kernel
theorem dX2_tellBounds_94 : decode cX2_tellBounds 94 = .ok (.aload_n 0, 1) := by decide +kernel
theorem dX2_tellBounds_95 : decode cX2_tellBounds 95 = .ok (.getfield 29, 3) := by decide +kernel
theorem dX2_tellBounds_98 : decode cX2_tellBounds 98 = .ok (.iconst 1, 1) := by decide +kernel
theorem dX2_tellBounds_99 : decode cX2_tellBounds 99 = .ok (.isub, 1) := by decide +kernel
theorem dX2_tellBounds_100 : decode cX2_tellBounds 100 = .ok (.iaload, 1) := by decide +kernel
theorem dX2_tellBounds_101 : decode cX2_tellBounds 101 = .ok (.invokevirtual 65, 3) := by decide +kernel
theorem dX2_tellBounds_104 : decode cX2_tellBounds 104 = .ok (.aload_n 0, 1) := by decide +kernel
theorem dX2_tellBounds_105 : decode cX2_tellBounds 105 = .ok (.iconst 4, 1) := by decide +kernel
theorem dX2_tellBounds_106 : decode cX2_tellBounds 106 = .ok (.invokevirtual 47, 3) := by decide +kernel
theorem dX2_tellBounds_109 : decode cX2_tellBounds 109 = .ok (.ireturn, 1) := by decide +kernel
theorem dX2_passKind_0 : decode cX2_passKind 0 = .ok (.aload_n 0, 1) := by decide +kernel
theorem dX2_passKind_1 : decode cX2_passKind 1 = .ok (.getfield 19, 3) := by decide +kernel
theorem dX2_passKind_4 : decode cX2_passKind 4 = .ok (.aload_n 0, 1) := by decide +kernel
theorem dX2_passKind_5 : decode cX2_passKind 5 = .ok (.getfield 29, 3) := by decide +kernel
theorem dX2_passKind_8 : decode cX2_passKind 8 = .ok (.iaload, 1) := by decide +kernel
theorem dX2_passKind_9 : decode cX2_passKind 9 = .ok (.iload_n 1, 1) := by decide +kernel
theorem dX2_passKind_10 : decode cX2_passKind 10 = .ok (.if_icmp .eq 5, 3) := by decide +kernel
theorem dX2_passKind_13 : decode cX2_passKind 13 = .ok (.iconst 0, 1) := by decide +kernel
theorem dX2_passKind_14 : decode cX2_passKind 14 = .ok (.ireturn, 1) := by decide +kernel
theorem dX2_passKind_15 : decode cX2_passKind 15 = .ok (.aload_n 0, 1) := by decide +kernel
theorem dX2_passKind_16 : decode cX2_passKind 16 = .ok (.dup, 1) := by decide +kernel
theorem dX2_passKind_17 : decode cX2_passKind 17 = .ok (.getfield 29, 3) := by decide +kernel
theorem dX2_passKind_20 : decode cX2_passKind 20 = .ok (.iconst 1, 1) := by decide +kernel
theorem dX2_passKind_21 : decode cX2_passKind 21 = .ok (.iadd, 1) := by decide +kernel
theorem dX2_passKind_22 : decode cX2_passKind 22 = .ok (.putfield 29, 3) := by decide +kernel
theorem dX2_passKind_25 : decode cX2_passKind 25 = .ok (.iconst 1, 1) := by decide +kernel
theorem dX2_passKind_26 : decode cX2_passKind 26 = .ok (.ireturn, 1) := by decide +kernel
theorem dX2_passNumber_0 : decode cX2_passNumber 0 = .ok (.aload_n 0, 1) := by decide +kernel
theorem dX2_passNumber_1 : decode cX2_passNumber 1 = .ok (.getfield 19, 3) := by decide +kernel
theorem dX2_passNumber_4 : decode cX2_passNumber 4 = .ok (.aload_n 0, 1) := by decide +kernel
theorem dX2_passNumber_5 : decode cX2_passNumber 5 = .ok (.getfield 29, 3) := by decide +kernel
theorem dX2_passNumber_8 : decode cX2_passNumber 8 = .ok (.iaload, 1) := by decide +kernel
theorem dX2_passNumber_9 : decode cX2_passNumber 9 = .ok (.iconst 3, 1) := by decide +kernel
theorem dX2_passNumber_10 : decode cX2_passNumber 10 = .ok (.if_icmp .ne 29, 3) := by decide +kernel
theorem dX2_passNumber_13 : decode cX2_passNumber 13 = .ok (.aload_n 0, 1) := by decide +kernel
theorem dX2_passNumber_14 : decode cX2_passNumber 14 = .ok (.getfield 26, 3) := by decide +kernel
theorem dX2_passNumber_17 : decode cX2_passNumber 17 = .ok (.aload_n 0, 1) := by decide +kernel
theorem dX2_passNumber_18 : decode cX2_passNumber 18 = .ok (.getfield 29, 3) := by decide +kernel
theorem dX2_passNumber_21 : decode cX2_passNumber 21 = .ok (.iaload, 1) := by decide +kernel
theorem dX2_passNumber_22 : decode cX2_passNumber 22 = .ok (.iload_n 1, 1) := by decide +kernel
theorem dX2_passNumber_23 : decode cX2_passNumber 23 = .ok (.if_icmp .lt 16, 3) := by decide +kernel
theorem dX2_passNumber_26 : decode cX2_passNumber 26 = .ok (.aload_n 0, 1) := by decide +kernel
theorem dX2_passNumber_27 : decode cX2_passNumber 27 = .ok (.getfield 26, 3) := by decide +kernel
theorem dX2_passNumber_30 : decode cX2_passNumber 30 = .ok (.aload_n 0, 1) := by decide +kernel
theorem dX2_passNumber_31 : decode cX2_passNumber 31 = .ok (.getfield 29, 3) := by decide +kernel
theorem dX2_passNumber_34 : decode cX2_passNumber 34 = .ok (.iaload, 1) := by decide +kernel
theorem dX2_passNumber_35 : decode cX2_passNumber 35 = .ok (.iload_n 2, 1) := by decide +kernel
theorem dX2_passNumber_36 : decode cX2_passNumber 36 = .ok (.if_icmp .le 5, 3) := by decide +kernel
theorem dX2_passNumber_39 : decode cX2_passNumber 39 = .ok (.iconst 0, 1) := by decide +kernel
theorem dX2_passNumber_40 : decode cX2_passNumber 40 = .ok (.ireturn, 1) := by decide +kernel
theorem dX2_passNumber_41 : decode cX2_passNumber 41 = .ok (.aload_n 0, 1) := by decide +kernel
theorem dX2_passNumber_42 : decode cX2_passNumber 42 = .ok (.dup, 1) := by decide +kernel
theorem dX2_passNumber_43 : decode cX2_passNumber 43 = .ok (.getfield 29, 3) := by decide +kernel
theorem dX2_passNumber_46 : decode cX2_passNumber 46 = .ok (.iconst 1, 1) := by decide +kernel
theorem dX2_passNumber_47 : decode cX2_passNumber 47 = .ok (.iadd, 1) := by decide +kernel
theorem dX2_passNumber_48 : decode cX2_passNumber 48 = .ok (.putfield 29, 3) := by decide +kernel
theorem dX2_passNumber_51 : decode cX2_passNumber 51 = .ok (.iconst 1, 1) := by decide +kernel
theorem dX2_passNumber_52 : decode cX2_passNumber 52 = .ok (.ireturn, 1) := by decide +kernel
theorem dX2_findTokens_0 : decode cX2_findTokens 0 = .ok (.iconst 0, 1) := by decide +kernel
theorem dX2_findTokens_1 : decode cX2_findTokens 1 = .ok (.istore_n 1, 1) := by decide +kernel
theorem dX2_findTokens_2 : decode cX2_findTokens 2 = .ok (.iconst 0, 1) := by decide +kernel
theorem dX2_findTokens_3 : decode cX2_findTokens 3 = .ok (.istore_n 2, 1) := by decide +kernel
theorem dX2_findTokens_4 : decode cX2_findTokens 4 = .ok (.iload_n 2, 1) := by decide +kernel
theorem dX2_findTokens_5 : decode cX2_findTokens 5 = .ok (.aload_n 0, 1) := by decide +kernel
theorem dX2_findTokens_6 : decode cX2_findTokens 6 = .ok (.getfield 15, 3) := by decide +kernel
theorem dX2_findTokens_9 : decode cX2_findTokens 9 = .ok (.if_icmp .ge 46, 3) := by decide +kernel
theorem dX2_findTokens_12 : decode cX2_findTokens 12 = .ok (.iload_n 1, 1) := by decide +kernel
theorem dX2_findTokens_13 : decode cX2_findTokens 13 = .ok (.bipush 80, 2) := by decide +kernel
theorem dX2_findTokens_15 : decode cX2_findTokens 15 = .ok (.if_icmp .ge 40, 3) := by decide +kernel
theorem dX2_findTokens_18 : decode cX2_findTokens 18 = .ok (.aload_n 0, 1) := by decide +kernel
theorem dX2_findTokens_19 : decode cX2_findTokens 19 = .ok (.getfield 9, 3) := by decide +kernel
theorem dX2_findTokens_22 : decode cX2_findTokens 22 = .ok (.iload_n 2, 1) := by decide +kernel
theorem dX2_findTokens_23 : decode cX2_findTokens 23 = .ok (.caload, 1) := by decide +kernel
theorem dX2_findTokens_24 : decode cX2_findTokens 24 = .ok (.bipush 32, 2) := by decide +kernel
theorem dX2_findTokens_26 : decode cX2_findTokens 26 = .ok (.if_icmp .ne 9, 3) := by decide +kernel
theorem dX2_findTokens_29 : decode cX2_findTokens 29 = .ok (.iinc 2 1, 3) := by decide +kernel
theorem dX2_findTokens_32 : decode cX2_findTokens 32 = .ok (.goto (-28), 3) := by decide +kernel
theorem dX2_findTokens_35 : decode cX2_findTokens 35 = .ok (.aload_n 0, 1) := by decide +kernel
theorem dX2_findTokens_36 : decode cX2_findTokens 36 = .ok (.getfield 23, 3) := by decide +kernel
theorem dX2_findTokens_39 : decode cX2_findTokens 39 = .ok (.iload_n 1, 1) := by decide +kernel
theorem dX2_findTokens_40 : decode cX2_findTokens 40 = .ok (.iload_n 2, 1) := by decide +kernel
theorem dX2_findTokens_41 : decode cX2_findTokens 41 = .ok (.iastore, 1) := by decide +kernel
theorem dX2_findTokens_42 : decode cX2_findTokens 42 = .ok (.aload_n 0, 1) := by decide +kernel
theorem dX2_findTokens_43 : decode cX2_findTokens 43 = .ok (.iload_n 1, 1) := by decide +kernel
theorem dX2_findTokens_44 : decode cX2_findTokens 44 = .ok (.iload_n 2, 1) := by decide +kernel
theorem dX2_findTokens_45 : decode cX2_findTokens 45 = .ok (.invokevirtual 69, 3) := by decide +kernel
theorem dX2_findTokens_48 : decode cX2_findTokens 48 = .ok (.istore_n 2, 1) := by decide +kernel
theorem dX2_findTokens_49 : decode cX2_findTokens 49 = .ok (.iinc 1 1, 3) := by decide +kernel
theorem dX2_findTokens_52 : decode cX2_findTokens 52 = .ok (.goto (-48), 3) := by decide +kernel
theorem dX2_findTokens_55 : decode cX2_findTokens 55 = .ok (.aload_n 0, 1) := by decide +kernel
theorem dX2_findTokens_56 : decode cX2_findTokens 56 = .ok (.getfield 19, 3) := by decide +kernel
theorem dX2_findTokens_59 : decode cX2_findTokens 59 = .ok (.iload_n 1, 1) := by decide +kernel
theorem dX2_findTokens_60 : decode cX2_findTokens 60 = .ok (.iconst 0, 1) := by decide +kernel
theorem dX2_findTokens_61 : decode cX2_findTokens 61 = .ok (.iastore, 1) := by decide +kernel
theorem dX2_findTokens_62 : decode cX2_findTokens 62 = .ok (.aload_n 0, 1) := by decide +kernel
theorem dX2_findTokens_63 : decode cX2_findTokens 63 = .ok (.getfield 23, 3) := by decide +kernel
theorem dX2_findTokens_66 : decode cX2_findTokens 66 = .ok (.iload_n 1, 1) := by decide +kernel
theorem dX2_findTokens_67 : decode cX2_findTokens 67 = .ok (.aload_n 0, 1) := by decide +kernel
theorem dX2_findTokens_68 : decode cX2_findTokens 68 = .ok (.getfield 15, 3) := by decide +kernel
theorem dX2_findTokens_71 : decode cX2_findTokens 71 = .ok (.iastore, 1) := by decide +kernel
theorem dX2_findTokens_72 : decode cX2_findTokens 72 = .ok (.return_, 1) := by decide +kernel
theorem dX2_takeToken_0 : decode cX2_takeToken 0 = .ok (.aload_n 0, 1) := by decide +kernel
theorem dX2_takeToken_1 : decode cX2_takeToken 1 = .ok (.getfield 9, 3) := by decide +kernel
theorem dX2_takeToken_4 : decode cX2_takeToken 4 = .ok (.iload_n 2, 1) := by decide +kernel
theorem dX2_takeToken_5 : decode cX2_takeToken 5 = .ok (.caload, 1) := by decide +kernel
theorem dX2_takeToken_6 : decode cX2_takeToken 6 = .ok (.invokestatic 73, 3) := by decide +kernel
theorem dX2_takeToken_9 : decode cX2_takeToken 9 = .ok (.ifCond .eq 10, 3) := by decide +kernel
theorem dX2_takeToken_12 : decode cX2_takeToken 12 = .ok (.aload_n 0, 1) := by decide +kernel
theorem dX2_takeToken_13 : decode cX2_takeToken 13 = .ok (.iload_n 1, 1) := by decide +kernel
theorem dX2_takeToken_14 : decode cX2_takeToken 14 = .ok (.iload_n 2, 1) := by decide +kernel
theorem dX2_takeToken_15 : decode cX2_takeToken 15 = .ok (.invokevirtual 77, 3) := by decide +kernel
theorem dX2_takeToken_18 : decode cX2_takeToken 18 = .ok (.ireturn, 1) := by decide +kernel
theorem dX2_takeToken_19 : decode cX2_takeToken 19 = .ok (.aload_n 0, 1) := by decide +kernel
theorem dX2_takeToken_20 : decode cX2_takeToken 20 = .ok (.getfield 9, 3) := by decide +kernel
theorem dX2_takeToken_23 : decode cX2_takeToken 23 = .ok (.iload_n 2, 1) := by decide +kernel
theorem dX2_takeToken_24 : decode cX2_takeToken 24 = .ok (.caload, 1) := by decide +kernel
theorem dX2_takeToken_25 : decode cX2_takeToken 25 = .ok (.invokestatic 80, 3) := by decide +kernel
theorem dX2_takeToken_28 : decode cX2_takeToken 28 = .ok (.ifCond .eq 10, 3) := by decide +kernel
theorem dX2_takeToken_31 : decode cX2_takeToken 31 = .ok (.aload_n 0, 1) := by decide +kernel
theorem dX2_takeToken_32 : decode cX2_takeToken 32 = .ok (.iload_n 1, 1) := by decide +kernel
theorem dX2_takeToken_33 : decode cX2_takeToken 33 = .ok (.iload_n 2, 1) := by decide +kernel
theorem dX2_takeToken_34 : decode cX2_takeToken 34 = .ok (.invokevirtual 83, 3) := by decide +kernel
theorem dX2_takeToken_37 : decode cX2_takeToken 37 = .ok (.ireturn, 1) := by decide +kernel
theorem dX2_takeToken_38 : decode cX2_takeToken 38 = .ok (.aload_n 0, 1) := by decide +kernel
theorem dX2_takeToken_39 : decode cX2_takeToken 39 = .ok (.getfield 19, 3) := by decide +kernel
theorem dX2_takeToken_42 : decode cX2_takeToken 42 = .ok (.iload_n 1, 1) := by decide +kernel
theorem dX2_takeToken_43 : decode cX2_takeToken 43 = .ok (.aload_n 0, 1) := by decide +kernel
theorem dX2_takeToken_44 : decode cX2_takeToken 44 = .ok (.getfield 9, 3) := by decide +kernel
theorem dX2_takeToken_47 : decode cX2_takeToken 47 = .ok (.iload_n 2, 1) := by decide +kernel
theorem dX2_takeToken_48 : decode cX2_takeToken 48 = .ok (.caload, 1) := by decide +kernel
theorem dX2_takeToken_49 : decode cX2_takeToken 49 = .ok (.bipush 59, 2) := by decide +kernel
theorem dX2_takeToken_51 : decode cX2_takeToken 51 = .ok (.if_icmp .ne 7, 3) := by decide +kernel
theorem dX2_takeToken_54 : decode cX2_takeToken 54 = .ok (.iconst 4, 1) := by decide +kernel
theorem dX2_takeToken_55 : decode cX2_takeToken 55 = .ok (.goto 4, 3) := by decide +kernel
theorem dX2_takeToken_58 : decode cX2_takeToken 58 = .ok (.iconst 5, 1) := by decide +kernel
theorem dX2_takeToken_59 : decode cX2_takeToken 59 = .ok (.iastore, 1) := by decide +kernel
theorem dX2_takeToken_60 : decode cX2_takeToken 60 = .ok (.iload_n 2, 1) := by decide +kernel
theorem dX2_takeToken_61 : decode cX2_takeToken 61 = .ok (.iconst 1, 1) := by decide +kernel
theorem dX2_takeToken_62 : decode cX2_takeToken 62 = .ok (.iadd, 1) := by decide +kernel
theorem dX2_takeToken_63 : decode cX2_takeToken 63 = .ok (.ireturn, 1) := by decide +kernel
theorem dX2_takeWord_0 : decode cX2_takeWord 0 = .ok (.iload_n 2, 1) := by decide +kernel
theorem dX2_takeWord_1 : decode cX2_takeWord 1 = .ok (.istore_n 3, 1) := by decide +kernel
theorem dX2_takeWord_2 : decode cX2_takeWord 2 = .ok (.iload_n 3, 1) := by decide +kernel
theorem dX2_takeWord_3 : decode cX2_takeWord 3 = .ok (.aload_n 0, 1) := by decide +kernel
theorem dX2_takeWord_4 : decode cX2_takeWord 4 = .ok (.getfield 15, 3) := by decide +kernel
theorem dX2_takeWord_7 : decode cX2_takeWord 7 = .ok (.if_icmp .ge 21, 3) := by decide +kernel
theorem dX2_takeWord_10 : decode cX2_takeWord 10 = .ok (.aload_n 0, 1) := by decide +kernel
theorem dX2_takeWord_11 : decode cX2_takeWord 11 = .ok (.getfield 9, 3) := by decide +kernel
theorem dX2_takeWord_14 : decode cX2_takeWord 14 = .ok (.iload_n 3, 1) := by decide +kernel
theorem dX2_takeWord_15 : decode cX2_takeWord 15 = .ok (.caload, 1) := by decide +kernel
theorem dX2_takeWord_16 : decode cX2_takeWord 16 = .ok (.invokestatic 73, 3) := by decide +kernel
theorem dX2_takeWord_19 : decode cX2_takeWord 19 = .ok (.ifCond .eq 9, 3) := by decide +kernel
theorem dX2_takeWord_22 : decode cX2_takeWord 22 = .ok (.iinc 3 1, 3) := by decide +kernel
theorem dX2_takeWord_25 : decode cX2_takeWord 25 = .ok (.goto (-23), 3) := by decide +kernel
theorem dX2_takeWord_28 : decode cX2_takeWord 28 = .ok (.aload_n 0, 1) := by decide +kernel
theorem dX2_takeWord_29 : decode cX2_takeWord 29 = .ok (.ldc 86, 2) := by decide +kernel
theorem dX2_takeWord_31 : decode cX2_takeWord 31 = .ok (.iload_n 2, 1) := by decide +kernel
theorem dX2_takeWord_32 : decode cX2_takeWord 32 = .ok (.iload_n 3, 1) := by decide +kernel
theorem dX2_takeWord_33 : decode cX2_takeWord 33 = .ok (.invokevirtual 87, 3) := by decide +kernel
theorem dX2_takeWord_36 : decode cX2_takeWord 36 = .ok (.ifCond .eq 13, 3) := by decide +kernel
theorem dX2_takeWord_39 : decode cX2_takeWord 39 = .ok (.aload_n 0, 1) := by decide +kernel
theorem dX2_takeWord_40 : decode cX2_takeWord 40 = .ok (.getfield 19, 3) := by decide +kernel
theorem dX2_takeWord_43 : decode cX2_takeWord 43 = .ok (.iload_n 1, 1) := by decide +kernel
theorem dX2_takeWord_44 : decode cX2_takeWord 44 = .ok (.iconst 1, 1) := by decide +kernel
theorem dX2_takeWord_45 : decode cX2_takeWord 45 = .ok (.iastore, 1) := by decide +kernel
theorem dX2_takeWord_46 : decode cX2_takeWord 46 = .ok (.goto 25, 3) := by decide +kernel
theorem dX2_takeWord_49 : decode cX2_takeWord 49 = .ok (.aload_n 0, 1) := by decide +kernel
theorem dX2_takeWord_50 : decode cX2_takeWord 50 = .ok (.getfield 19, 3) := by decide +kernel
theorem dX2_takeWord_53 : decode cX2_takeWord 53 = .ok (.iload_n 1, 1) := by decide +kernel
theorem dX2_takeWord_54 : decode cX2_takeWord 54 = .ok (.aload_n 0, 1) := by decide +kernel
theorem dX2_takeWord_55 : decode cX2_takeWord 55 = .ok (.ldc 91, 2) := by decide +kernel
theorem dX2_takeWord_57 : decode cX2_takeWord 57 = .ok (.iload_n 2, 1) := by decide +kernel
theorem dX2_takeWord_58 : decode cX2_takeWord 58 = .ok (.iload_n 3, 1) := by decide +kernel
theorem dX2_takeWord_59 : decode cX2_takeWord 59 = .ok (.invokevirtual 87, 3) := by decide +kernel
theorem dX2_takeWord_62 : decode cX2_takeWord 62 = .ok (.ifCond .eq 7, 3) := by decide +kernel
theorem dX2_takeWord_65 : decode cX2_takeWord 65 = .ok (.iconst 2, 1) := by decide +kernel
theorem dX2_takeWord_66 : decode cX2_takeWord 66 = .ok (.goto 4, 3) := by decide +kernel
theorem dX2_takeWord_69 : decode cX2_takeWord 69 = .ok (.iconst 5, 1) := by decide +kernel
theorem dX2_takeWord_70 : decode cX2_takeWord 70 = .ok (.iastore, 1) := by decide +kernel
theorem dX2_takeWord_71 : decode cX2_takeWord 71 = .ok (.iload_n 3, 1) := by decide +kernel
theorem dX2_takeWord_72 : decode cX2_takeWord 72 = .ok (.ireturn, 1) := by decide +kernel
theorem dX2_spells_0 : decode cX2_spells 0 = .ok (.aload_n 1, 1) := by decide +kernel
theorem dX2_spells_1 : decode cX2_spells 1 = .ok (.invokevirtual 93, 3) := by decide +kernel
theorem dX2_spells_4 : decode cX2_spells 4 = .ok (.iload_n 3, 1) := by decide +kernel
theorem dX2_spells_5 : decode cX2_spells 5 = .ok (.iload_n 2, 1) := by decide +kernel
theorem dX2_spells_6 : decode cX2_spells 6 = .ok (.isub, 1) := by decide +kernel
theorem dX2_spells_7 : decode cX2_spells 7 = .ok (.if_icmp .eq 5, 3) := by decide +kernel
theorem dX2_spells_10 : decode cX2_spells 10 = .ok (.iconst 0, 1) := by decide +kernel
theorem dX2_spells_11 : decode cX2_spells 11 = .ok (.ireturn, 1) := by decide +kernel
theorem dX2_spells_12 : decode cX2_spells 12 = .ok (.iconst 0, 1) := by decide +kernel
theorem dX2_spells_13 : decode cX2_spells 13 = .ok (.istore 4, 2) := by decide +kernel
theorem dX2_spells_15 : decode cX2_spells 15 = .ok (.iload 4, 2) := by decide +kernel
theorem dX2_spells_17 : decode cX2_spells 17 = .ok (.aload_n 1, 1) := by decide +kernel
theorem dX2_spells_18 : decode cX2_spells 18 = .ok (.invokevirtual 93, 3) := by decide +kernel
theorem dX2_spells_21 : decode cX2_spells 21 = .ok (.if_icmp .ge 29, 3) := by decide +kernel
theorem dX2_spells_24 : decode cX2_spells 24 = .ok (.aload_n 1, 1) := by decide +kernel
theorem dX2_spells_25 : decode cX2_spells 25 = .ok (.iload 4, 2) := by decide +kernel
theorem dX2_spells_27 : decode cX2_spells 27 = .ok (.invokevirtual 98, 3) := by decide +kernel
theorem dX2_spells_30 : decode cX2_spells 30 = .ok (.aload_n 0, 1) := by decide +kernel
theorem dX2_spells_31 : decode cX2_spells 31 = .ok (.getfield 9, 3) := by decide +kernel
theorem dX2_spells_34 : decode cX2_spells 34 = .ok (.iload_n 2, 1) := by decide +kernel
theorem dX2_spells_35 : decode cX2_spells 35 = .ok (.iload 4, 2) := by decide +kernel
theorem dX2_spells_37 : decode cX2_spells 37 = .ok (.iadd, 1) := by decide +kernel
theorem dX2_spells_38 : decode cX2_spells 38 = .ok (.caload, 1) := by decide +kernel
theorem dX2_spells_39 : decode cX2_spells 39 = .ok (.if_icmp .eq 5, 3) := by decide +kernel
theorem dX2_spells_42 : decode cX2_spells 42 = .ok (.iconst 0, 1) := by decide +kernel
theorem dX2_spells_43 : decode cX2_spells 43 = .ok (.ireturn, 1) := by decide +kernel
theorem dX2_spells_44 : decode cX2_spells 44 = .ok (.iinc 4 1, 3) := by decide +kernel
theorem dX2_spells_47 : decode cX2_spells 47 = .ok (.goto (-32), 3) := by decide +kernel
theorem dX2_spells_50 : decode cX2_spells 50 = .ok (.iconst 1, 1) := by decide +kernel
theorem dX2_spells_51 : decode cX2_spells 51 = .ok (.ireturn, 1) := by decide +kernel
theorem dX2_takeFigures_0 : decode cX2_takeFigures 0 = .ok (.iload_n 2, 1) := by decide +kernel
theorem dX2_takeFigures_1 : decode cX2_takeFigures 1 = .ok (.istore_n 3, 1) := by decide +kernel
theorem dX2_takeFigures_2 : decode cX2_takeFigures 2 = .ok (.iconst 0, 1) := by decide +kernel
theorem dX2_takeFigures_3 : decode cX2_takeFigures 3 = .ok (.istore 4, 2) := by decide +kernel
theorem dX2_takeFigures_5 : decode cX2_takeFigures 5 = .ok (.iload_n 3, 1) := by decide +kernel
theorem dX2_takeFigures_6 : decode cX2_takeFigures 6 = .ok (.aload_n 0, 1) := by decide +kernel
theorem dX2_takeFigures_7 : decode cX2_takeFigures 7 = .ok (.getfield 15, 3) := by decide +kernel
theorem dX2_takeFigures_10 : decode cX2_takeFigures 10 = .ok (.if_icmp .ge 38, 3) := by decide +kernel
theorem dX2_takeFigures_13 : decode cX2_takeFigures 13 = .ok (.aload_n 0, 1) := by decide +kernel
theorem dX2_takeFigures_14 : decode cX2_takeFigures 14 = .ok (.getfield 9, 3) := by decide +kernel
theorem dX2_takeFigures_17 : decode cX2_takeFigures 17 = .ok (.iload_n 3, 1) := by decide +kernel
theorem dX2_takeFigures_18 : decode cX2_takeFigures 18 = .ok (.caload, 1) := by decide +kernel
theorem dX2_takeFigures_19 : decode cX2_takeFigures 19 = .ok (.invokestatic 80, 3) := by decide +kernel
theorem dX2_takeFigures_22 : decode cX2_takeFigures 22 = .ok (.ifCond .eq 26, 3) := by decide +kernel
theorem dX2_takeFigures_25 : decode cX2_takeFigures 25 = .ok (.iload 4, 2) := by decide +kernel
theorem dX2_takeFigures_27 : decode cX2_takeFigures 27 = .ok (.bipush 10, 2) := by decide +kernel
theorem dX2_takeFigures_29 : decode cX2_takeFigures 29 = .ok (.imul, 1) := by decide +kernel
theorem dX2_takeFigures_30 : decode cX2_takeFigures 30 = .ok (.aload_n 0, 1) := by decide +kernel
theorem dX2_takeFigures_31 : decode cX2_takeFigures 31 = .ok (.getfield 9, 3) := by decide +kernel
theorem dX2_takeFigures_34 : decode cX2_takeFigures 34 = .ok (.iload_n 3, 1) := by decide +kernel
theorem dX2_takeFigures_35 : decode cX2_takeFigures 35 = .ok (.caload, 1) := by decide +kernel
theorem dX2_takeFigures_36 : decode cX2_takeFigures 36 = .ok (.bipush 48, 2) := by decide +kernel
theorem dX2_takeFigures_38 : decode cX2_takeFigures 38 = .ok (.isub, 1) := by decide +kernel
theorem dX2_takeFigures_39 : decode cX2_takeFigures 39 = .ok (.iadd, 1) := by decide +kernel
theorem dX2_takeFigures_40 : decode cX2_takeFigures 40 = .ok (.istore 4, 2) := by decide +kernel
theorem dX2_takeFigures_42 : decode cX2_takeFigures 42 = .ok (.iinc 3 1, 3) := by decide +kernel
theorem dX2_takeFigures_45 : decode cX2_takeFigures 45 = .ok (.goto (-40), 3) := by decide +kernel
theorem dX2_takeFigures_48 : decode cX2_takeFigures 48 = .ok (.iload_n 3, 1) := by decide +kernel
theorem dX2_takeFigures_49 : decode cX2_takeFigures 49 = .ok (.iload_n 2, 1) := by decide +kernel
theorem dX2_takeFigures_50 : decode cX2_takeFigures 50 = .ok (.isub, 1) := by decide +kernel
theorem dX2_takeFigures_51 : decode cX2_takeFigures 51 = .ok (.istore 5, 2) := by decide +kernel
theorem dX2_takeFigures_53 : decode cX2_takeFigures 53 = .ok (.iload 5, 2) := by decide +kernel
theorem dX2_takeFigures_55 : decode cX2_takeFigures 55 = .ok (.iconst 1, 1) := by decide +kernel
theorem dX2_takeFigures_56 : decode cX2_takeFigures 56 = .ok (.if_icmp .le 18, 3) := by decide +kernel
theorem dX2_takeFigures_59 : decode cX2_takeFigures 59 = .ok (.aload_n 0, 1) := by decide +kernel
theorem dX2_takeFigures_60 : decode cX2_takeFigures 60 = .ok (.getfield 9, 3) := by decide +kernel
theorem dX2_takeFigures_63 : decode cX2_takeFigures 63 = .ok (.iload_n 2, 1) := by decide +kernel
theorem dX2_takeFigures_64 : decode cX2_takeFigures 64 = .ok (.caload, 1) := by decide +kernel
theorem dX2_takeFigures_65 : decode cX2_takeFigures 65 = .ok (.bipush 48, 2) := by decide +kernel
theorem dX2_takeFigures_67 : decode cX2_takeFigures 67 = .ok (.if_icmp .ne 7, 3) := by decide +kernel
theorem dX2_takeFigures_70 : decode cX2_takeFigures 70 = .ok (.iconst 1, 1) := by decide +kernel
theorem dX2_takeFigures_71 : decode cX2_takeFigures 71 = .ok (.goto 4, 3) := by decide +kernel
theorem dX2_takeFigures_74 : decode cX2_takeFigures 74 = .ok (.iconst 0, 1) := by decide +kernel
theorem dX2_takeFigures_75 : decode cX2_takeFigures 75 = .ok (.istore 6, 2) := by decide +kernel
theorem dX2_takeFigures_77 : decode cX2_takeFigures 77 = .ok (.aload_n 0, 1) := by decide +kernel
theorem dX2_takeFigures_78 : decode cX2_takeFigures 78 = .ok (.getfield 19, 3) := by decide +kernel
theorem dX2_takeFigures_81 : decode cX2_takeFigures 81 = .ok (.iload_n 1, 1) := by decide +kernel
theorem dX2_takeFigures_82 : decode cX2_takeFigures 82 = .ok (.iload 5, 2) := by decide +kernel
theorem dX2_takeFigures_84 : decode cX2_takeFigures 84 = .ok (.iconst 2, 1) := by decide +kernel
theorem dX2_takeFigures_85 : decode cX2_takeFigures 85 = .ok (.if_icmp .gt 8, 3) := by decide +kernel
theorem dX2_takeFigures_88 : decode cX2_takeFigures 88 = .ok (.iload 6, 2) := by decide +kernel
theorem dX2_takeFigures_90 : decode cX2_takeFigures 90 = .ok (.ifCond .eq 7, 3) := by decide +kernel
theorem dX2_takeFigures_93 : decode cX2_takeFigures 93 = .ok (.iconst 5, 1) := by decide +kernel
theorem dX2_takeFigures_94 : decode cX2_takeFigures 94 = .ok (.goto 4, 3) := by decide +kernel
theorem dX2_takeFigures_97 : decode cX2_takeFigures 97 = .ok (.iconst 3, 1) := by decide +kernel
theorem dX2_takeFigures_98 : decode cX2_takeFigures 98 = .ok (.iastore, 1) := by decide +kernel
theorem dX2_takeFigures_99 : decode cX2_takeFigures 99 = .ok (.aload_n 0, 1) := by decide +kernel
theorem dX2_takeFigures_100 : decode cX2_takeFigures 100 = .ok (.getfield 26, 3) := by decide +kernel
theorem dX2_takeFigures_103 : decode cX2_takeFigures 103 = .ok (.iload_n 1, 1) := by decide +kernel
theorem dX2_takeFigures_104 : decode cX2_takeFigures 104 = .ok (.iload 4, 2) := by decide +kernel
theorem dX2_takeFigures_106 : decode cX2_takeFigures 106 = .ok (.iastore, 1) := by decide +kernel
theorem dX2_takeFigures_107 : decode cX2_takeFigures 107 = .ok (.iload_n 3, 1) := by decide +kernel
theorem dX2_takeFigures_108 : decode cX2_takeFigures 108 = .ok (.ireturn, 1) := by decide +kernel
theorem dX2_isSmallLetter_0 : decode cX2_isSmallLetter 0 = .ok (.iload_n 0, 1) := by decide +kernel
theorem dX2_isSmallLetter_1 : decode cX2_isSmallLetter 1 = .ok (.bipush 97, 2) := by decide +kernel
theorem dX2_isSmallLetter_3 : decode cX2_isSmallLetter 3 = .ok (.if_icmp .lt 13, 3) := by decide +kernel
theorem dX2_isSmallLetter_6 : decode cX2_isSmallLetter 6 = .ok (.iload_n 0, 1) := by decide +kernel
theorem dX2_isSmallLetter_7 : decode cX2_isSmallLetter 7 = .ok (.bipush 122, 2) := by decide +kernel
theorem dX2_isSmallLetter_9 : decode cX2_isSmallLetter 9 = .ok (.if_icmp .gt 7, 3) := by decide +kernel
theorem dX2_isSmallLetter_12 : decode cX2_isSmallLetter 12 = .ok (.iconst 1, 1) := by decide +kernel
theorem dX2_isSmallLetter_13 : decode cX2_isSmallLetter 13 = .ok (.goto 4, 3) := by decide +kernel
theorem dX2_isSmallLetter_16 : decode cX2_isSmallLetter 16 = .ok (.iconst 0, 1) := by decide +kernel
theorem dX2_isSmallLetter_17 : decode cX2_isSmallLetter 17 = .ok (.ireturn, 1) := by decide +kernel
theorem dX2_isFigure_0 : decode cX2_isFigure 0 = .ok (.iload_n 0, 1) := by decide +kernel
theorem dX2_isFigure_1 : decode cX2_isFigure 1 = .ok (.bipush 48, 2) := by decide +kernel
theorem dX2_isFigure_3 : decode cX2_isFigure 3 = .ok (.if_icmp .lt 13, 3) := by decide +kernel
theorem dX2_isFigure_6 : decode cX2_isFigure 6 = .ok (.iload_n 0, 1) := by decide +kernel
theorem dX2_isFigure_7 : decode cX2_isFigure 7 = .ok (.bipush 57, 2) := by decide +kernel
theorem dX2_isFigure_9 : decode cX2_isFigure 9 = .ok (.if_icmp .gt 7, 3) := by decide +kernel
theorem dX2_isFigure_12 : decode cX2_isFigure 12 = .ok (.iconst 1, 1) := by decide +kernel
theorem dX2_isFigure_13 : decode cX2_isFigure 13 = .ok (.goto 4, 3) := by decide +kernel
theorem dX2_isFigure_16 : decode cX2_isFigure 16 = .ok (.iconst 0, 1) := by decide +kernel
theorem dX2_isFigure_17 : decode cX2_isFigure 17 = .ok (.ireturn, 1) := by decide +kernel
