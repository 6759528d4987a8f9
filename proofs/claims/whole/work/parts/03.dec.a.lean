theorem dX0_init_0 : decode cX0_init 0 = .ok (.aload_n 0, 1) := by decide +kernel
theorem dX0_init_1 : decode cX0_init 1 = .ok (.invokespecial 3, 3) := by decide +kernel
theorem dX0_init_4 : decode cX0_init 4 = .ok (.aload_n 0, 1) := by decide +kernel
theorem dX0_init_5 : decode cX0_init 5 = .ok (.bipush 20, 2) := by decide +kernel
theorem dX0_init_7 : decode cX0_init 7 = .ok (.newarray .int, 2) := by decide +kernel
theorem dX0_init_9 : decode cX0_init 9 = .ok (.putfield 9, 3) := by decide +kernel
theorem dX0_init_12 : decode cX0_init 12 = .ok (.aload_n 0, 1) := by decide +kernel
theorem dX0_init_13 : decode cX0_init 13 = .ok (.bipush 20, 2) := by decide +kernel
theorem dX0_init_15 : decode cX0_init 15 = .ok (.newarray .int, 2) := by decide +kernel
theorem dX0_init_17 : decode cX0_init 17 = .ok (.putfield 15, 3) := by decide +kernel
theorem dX0_init_20 : decode cX0_init 20 = .ok (.aload_n 0, 1) := by decide +kernel
theorem dX0_init_21 : decode cX0_init 21 = .ok (.bipush 20, 2) := by decide +kernel
theorem dX0_init_23 : decode cX0_init 23 = .ok (.newarray .int, 2) := by decide +kernel
theorem dX0_init_25 : decode cX0_init 25 = .ok (.putfield 18, 3) := by decide +kernel
theorem dX0_init_28 : decode cX0_init 28 = .ok (.aload_n 0, 1) := by decide +kernel
theorem dX0_init_29 : decode cX0_init 29 = .ok (.bipush 20, 2) := by decide +kernel
theorem dX0_init_31 : decode cX0_init 31 = .ok (.newarray .int, 2) := by decide +kernel
theorem dX0_init_33 : decode cX0_init 33 = .ok (.putfield 21, 3) := by decide +kernel
theorem dX0_init_36 : decode cX0_init 36 = .ok (.aload_n 0, 1) := by decide +kernel
theorem dX0_init_37 : decode cX0_init 37 = .ok (.bipush 20, 2) := by decide +kernel
theorem dX0_init_39 : decode cX0_init 39 = .ok (.newarray .int, 2) := by decide +kernel
theorem dX0_init_41 : decode cX0_init 41 = .ok (.putfield 24, 3) := by decide +kernel
theorem dX0_init_44 : decode cX0_init 44 = .ok (.aload_n 0, 1) := by decide +kernel
theorem dX0_init_45 : decode cX0_init 45 = .ok (.bipush 20, 2) := by decide +kernel
theorem dX0_init_47 : decode cX0_init 47 = .ok (.newarray .int, 2) := by decide +kernel
theorem dX0_init_49 : decode cX0_init 49 = .ok (.putfield 27, 3) := by decide +kernel
theorem dX0_init_52 : decode cX0_init 52 = .ok (.aload_n 0, 1) := by decide +kernel
theorem dX0_init_53 : decode cX0_init 53 = .ok (.bipush 20, 2) := by decide +kernel
theorem dX0_init_55 : decode cX0_init 55 = .ok (.newarray .int, 2) := by decide +kernel
theorem dX0_init_57 : decode cX0_init 57 = .ok (.putfield 30, 3) := by decide +kernel
theorem dX0_init_60 : decode cX0_init 60 = .ok (.return_, 1) := by decide +kernel
theorem dX0_copyFrom_0 : decode cX0_copyFrom 0 = .ok (.aload_n 1, 1) := by decide +kernel
theorem dX0_copyFrom_1 : decode cX0_copyFrom 1 = .ok (.getfield 9, 3) := by decide +kernel
theorem dX0_copyFrom_4 : decode cX0_copyFrom 4 = .ok (.iconst 0, 1) := by decide +kernel
theorem dX0_copyFrom_5 : decode cX0_copyFrom 5 = .ok (.aload_n 0, 1) := by decide +kernel
theorem dX0_copyFrom_6 : decode cX0_copyFrom 6 = .ok (.getfield 9, 3) := by decide +kernel
theorem dX0_copyFrom_9 : decode cX0_copyFrom 9 = .ok (.iconst 0, 1) := by decide +kernel
theorem dX0_copyFrom_10 : decode cX0_copyFrom 10 = .ok (.bipush 20, 2) := by decide +kernel
theorem dX0_copyFrom_12 : decode cX0_copyFrom 12 = .ok (.invokestatic 33, 3) := by decide +kernel
theorem dX0_copyFrom_15 : decode cX0_copyFrom 15 = .ok (.aload_n 1, 1) := by decide +kernel
theorem dX0_copyFrom_16 : decode cX0_copyFrom 16 = .ok (.getfield 15, 3) := by decide +kernel
theorem dX0_copyFrom_19 : decode cX0_copyFrom 19 = .ok (.iconst 0, 1) := by decide +kernel
theorem dX0_copyFrom_20 : decode cX0_copyFrom 20 = .ok (.aload_n 0, 1) := by decide +kernel
theorem dX0_copyFrom_21 : decode cX0_copyFrom 21 = .ok (.getfield 15, 3) := by decide +kernel
theorem dX0_copyFrom_24 : decode cX0_copyFrom 24 = .ok (.iconst 0, 1) := by decide +kernel
theorem dX0_copyFrom_25 : decode cX0_copyFrom 25 = .ok (.bipush 20, 2) := by decide +kernel
theorem dX0_copyFrom_27 : decode cX0_copyFrom 27 = .ok (.invokestatic 33, 3) := by decide +kernel
theorem dX0_copyFrom_30 : decode cX0_copyFrom 30 = .ok (.aload_n 1, 1) := by decide +kernel
theorem dX0_copyFrom_31 : decode cX0_copyFrom 31 = .ok (.getfield 18, 3) := by decide +kernel
theorem dX0_copyFrom_34 : decode cX0_copyFrom 34 = .ok (.iconst 0, 1) := by decide +kernel
theorem dX0_copyFrom_35 : decode cX0_copyFrom 35 = .ok (.aload_n 0, 1) := by decide +kernel
theorem dX0_copyFrom_36 : decode cX0_copyFrom 36 = .ok (.getfield 18, 3) := by decide +kernel
theorem dX0_copyFrom_39 : decode cX0_copyFrom 39 = .ok (.iconst 0, 1) := by decide +kernel
theorem dX0_copyFrom_40 : decode cX0_copyFrom 40 = .ok (.bipush 20, 2) := by decide +kernel
theorem dX0_copyFrom_42 : decode cX0_copyFrom 42 = .ok (.invokestatic 33, 3) := by decide +kernel
theorem dX0_copyFrom_45 : decode cX0_copyFrom 45 = .ok (.aload_n 1, 1) := by decide +kernel
theorem dX0_copyFrom_46 : decode cX0_copyFrom 46 = .ok (.getfield 21, 3) := by decide +kernel
theorem dX0_copyFrom_49 : decode cX0_copyFrom 49 = .ok (.iconst 0, 1) := by decide +kernel
theorem dX0_copyFrom_50 : decode cX0_copyFrom 50 = .ok (.aload_n 0, 1) := by decide +kernel
theorem dX0_copyFrom_51 : decode cX0_copyFrom 51 = .ok (.getfield 21, 3) := by decide +kernel
theorem dX0_copyFrom_54 : decode cX0_copyFrom 54 = .ok (.iconst 0, 1) := by decide +kernel
theorem dX0_copyFrom_55 : decode cX0_copyFrom 55 = .ok (.bipush 20, 2) := by decide +kernel
theorem dX0_copyFrom_57 : decode cX0_copyFrom 57 = .ok (.invokestatic 33, 3) := by decide +kernel
theorem dX0_copyFrom_60 : decode cX0_copyFrom 60 = .ok (.aload_n 1, 1) := by decide +kernel
theorem dX0_copyFrom_61 : decode cX0_copyFrom 61 = .ok (.getfield 24, 3) := by decide +kernel
theorem dX0_copyFrom_64 : decode cX0_copyFrom 64 = .ok (.iconst 0, 1) := by decide +kernel
theorem dX0_copyFrom_65 : decode cX0_copyFrom 65 = .ok (.aload_n 0, 1) := by decide +kernel
theorem dX0_copyFrom_66 : decode cX0_copyFrom 66 = .ok (.getfield 24, 3) := by decide +kernel
theorem dX0_copyFrom_69 : decode cX0_copyFrom 69 = .ok (.iconst 0, 1) := by decide +kernel
theorem dX0_copyFrom_70 : decode cX0_copyFrom 70 = .ok (.bipush 20, 2) := by decide +kernel
theorem dX0_copyFrom_72 : decode cX0_copyFrom 72 = .ok (.invokestatic 33, 3) := by decide +kernel
theorem dX0_copyFrom_75 : decode cX0_copyFrom 75 = .ok (.aload_n 1, 1) := by decide +kernel
theorem dX0_copyFrom_76 : decode cX0_copyFrom 76 = .ok (.getfield 27, 3) := by decide +kernel
theorem dX0_copyFrom_79 : decode cX0_copyFrom 79 = .ok (.iconst 0, 1) := by decide +kernel
theorem dX0_copyFrom_80 : decode cX0_copyFrom 80 = .ok (.aload_n 0, 1) := by decide +kernel
theorem dX0_copyFrom_81 : decode cX0_copyFrom 81 = .ok (.getfield 27, 3) := by decide +kernel
theorem dX0_copyFrom_84 : decode cX0_copyFrom 84 = .ok (.iconst 0, 1) := by decide +kernel
theorem dX0_copyFrom_85 : decode cX0_copyFrom 85 = .ok (.bipush 20, 2) := by decide +kernel
theorem dX0_copyFrom_87 : decode cX0_copyFrom 87 = .ok (.invokestatic 33, 3) := by decide +kernel
theorem dX0_copyFrom_90 : decode cX0_copyFrom 90 = .ok (.aload_n 1, 1) := by decide +kernel
theorem dX0_copyFrom_91 : decode cX0_copyFrom 91 = .ok (.getfield 30, 3) := by decide +kernel
theorem dX0_copyFrom_94 : decode cX0_copyFrom 94 = .ok (.iconst 0, 1) := by decide +kernel
theorem dX0_copyFrom_95 : decode cX0_copyFrom 95 = .ok (.aload_n 0, 1) := by decide +kernel
theorem dX0_copyFrom_96 : decode cX0_copyFrom 96 = .ok (.getfield 30, 3) := by decide +kernel
theorem dX0_copyFrom_99 : decode cX0_copyFrom 99 = .ok (.iconst 0, 1) := by decide +kernel
theorem dX0_copyFrom_100 : decode cX0_copyFrom 100 = .ok (.bipush 20, 2) := by decide +kernel
theorem dX0_copyFrom_102 : decode cX0_copyFrom 102 = .ok (.invokestatic 33, 3) := by decide +kernel
theorem dX0_copyFrom_105 : decode cX0_copyFrom 105 = .ok (.aload_n 0, 1) := by decide +kernel
theorem dX0_copyFrom_106 : decode cX0_copyFrom 106 = .ok (.aload_n 1, 1) := by decide +kernel
theorem dX0_copyFrom_107 : decode cX0_copyFrom 107 = .ok (.getfield 39, 3) := by decide +kernel
theorem dX0_copyFrom_110 : decode cX0_copyFrom 110 = .ok (.putfield 39, 3) := by decide +kernel
theorem dX0_copyFrom_113 : decode cX0_copyFrom 113 = .ok (.return_, 1) := by decide +kernel
theorem dX0_put_0 : decode cX0_put 0 = .ok (.aload_n 0, 1) := by decide +kernel
theorem dX0_put_1 : decode cX0_put 1 = .ok (.getfield 39, 3) := by decide +kernel
theorem dX0_put_4 : decode cX0_put 4 = .ok (.istore 5, 2) := by decide +kernel
theorem dX0_put_6 : decode cX0_put 6 = .ok (.aload_n 0, 1) := by decide +kernel
theorem dX0_put_7 : decode cX0_put 7 = .ok (.getfield 9, 3) := by decide +kernel
theorem dX0_put_10 : decode cX0_put 10 = .ok (.iload 5, 2) := by decide +kernel
theorem dX0_put_12 : decode cX0_put 12 = .ok (.iload_n 1, 1) := by decide +kernel
theorem dX0_put_13 : decode cX0_put 13 = .ok (.iastore, 1) := by decide +kernel
theorem dX0_put_14 : decode cX0_put 14 = .ok (.aload_n 0, 1) := by decide +kernel
theorem dX0_put_15 : decode cX0_put 15 = .ok (.getfield 15, 3) := by decide +kernel
theorem dX0_put_18 : decode cX0_put 18 = .ok (.iload 5, 2) := by decide +kernel
theorem dX0_put_20 : decode cX0_put 20 = .ok (.iload_n 2, 1) := by decide +kernel
theorem dX0_put_21 : decode cX0_put 21 = .ok (.iastore, 1) := by decide +kernel
theorem dX0_put_22 : decode cX0_put 22 = .ok (.aload_n 0, 1) := by decide +kernel
theorem dX0_put_23 : decode cX0_put 23 = .ok (.getfield 18, 3) := by decide +kernel
theorem dX0_put_26 : decode cX0_put 26 = .ok (.iload 5, 2) := by decide +kernel
theorem dX0_put_28 : decode cX0_put 28 = .ok (.iload_n 3, 1) := by decide +kernel
theorem dX0_put_29 : decode cX0_put 29 = .ok (.iastore, 1) := by decide +kernel
theorem dX0_put_30 : decode cX0_put 30 = .ok (.aload_n 0, 1) := by decide +kernel
theorem dX0_put_31 : decode cX0_put 31 = .ok (.getfield 21, 3) := by decide +kernel
theorem dX0_put_34 : decode cX0_put 34 = .ok (.iload 5, 2) := by decide +kernel
theorem dX0_put_36 : decode cX0_put 36 = .ok (.iload 4, 2) := by decide +kernel
theorem dX0_put_38 : decode cX0_put 38 = .ok (.iastore, 1) := by decide +kernel
theorem dX0_put_39 : decode cX0_put 39 = .ok (.aload_n 0, 1) := by decide +kernel
theorem dX0_put_40 : decode cX0_put 40 = .ok (.dup, 1) := by decide +kernel
theorem dX0_put_41 : decode cX0_put 41 = .ok (.getfield 39, 3) := by decide +kernel
theorem dX0_put_44 : decode cX0_put 44 = .ok (.iconst 1, 1) := by decide +kernel
theorem dX0_put_45 : decode cX0_put 45 = .ok (.iadd, 1) := by decide +kernel
theorem dX0_put_46 : decode cX0_put 46 = .ok (.putfield 39, 3) := by decide +kernel
theorem dX0_put_49 : decode cX0_put 49 = .ok (.iload 5, 2) := by decide +kernel
theorem dX0_put_51 : decode cX0_put 51 = .ok (.ireturn, 1) := by decide +kernel
theorem dX0_lengthNow_0 : decode cX0_lengthNow 0 = .ok (.aload_n 0, 1) := by decide +kernel
theorem dX0_lengthNow_1 : decode cX0_lengthNow 1 = .ok (.getfield 18, 3) := by decide +kernel
theorem dX0_lengthNow_4 : decode cX0_lengthNow 4 = .ok (.iload_n 1, 1) := by decide +kernel
theorem dX0_lengthNow_5 : decode cX0_lengthNow 5 = .ok (.iaload, 1) := by decide +kernel
theorem dX0_lengthNow_6 : decode cX0_lengthNow 6 = .ok (.aload_n 0, 1) := by decide +kernel
theorem dX0_lengthNow_7 : decode cX0_lengthNow 7 = .ok (.getfield 27, 3) := by decide +kernel
theorem dX0_lengthNow_10 : decode cX0_lengthNow 10 = .ok (.iload_n 1, 1) := by decide +kernel
theorem dX0_lengthNow_11 : decode cX0_lengthNow 11 = .ok (.iaload, 1) := by decide +kernel
theorem dX0_lengthNow_12 : decode cX0_lengthNow 12 = .ok (.iadd, 1) := by decide +kernel
theorem dX0_lengthNow_13 : decode cX0_lengthNow 13 = .ok (.ireturn, 1) := by decide +kernel
theorem dX0_endFrom_0 : decode cX0_endFrom 0 = .ok (.aload_n 0, 1) := by decide +kernel
theorem dX0_endFrom_1 : decode cX0_endFrom 1 = .ok (.getfield 9, 3) := by decide +kernel
theorem dX0_endFrom_4 : decode cX0_endFrom 4 = .ok (.iload_n 1, 1) := by decide +kernel
theorem dX0_endFrom_5 : decode cX0_endFrom 5 = .ok (.iaload, 1) := by decide +kernel
theorem dX0_endFrom_6 : decode cX0_endFrom 6 = .ok (.iload_n 2, 1) := by decide +kernel
theorem dX0_endFrom_7 : decode cX0_endFrom 7 = .ok (.if_icmp .ne 10, 3) := by decide +kernel
theorem dX0_endFrom_10 : decode cX0_endFrom 10 = .ok (.aload_n 0, 1) := by decide +kernel
theorem dX0_endFrom_11 : decode cX0_endFrom 11 = .ok (.getfield 15, 3) := by decide +kernel
theorem dX0_endFrom_14 : decode cX0_endFrom 14 = .ok (.iload_n 1, 1) := by decide +kernel
theorem dX0_endFrom_15 : decode cX0_endFrom 15 = .ok (.iaload, 1) := by decide +kernel
theorem dX0_endFrom_16 : decode cX0_endFrom 16 = .ok (.ireturn, 1) := by decide +kernel
theorem dX0_endFrom_17 : decode cX0_endFrom 17 = .ok (.aload_n 0, 1) := by decide +kernel
theorem dX0_endFrom_18 : decode cX0_endFrom 18 = .ok (.getfield 15, 3) := by decide +kernel
theorem dX0_endFrom_21 : decode cX0_endFrom 21 = .ok (.iload_n 1, 1) := by decide +kernel
theorem dX0_endFrom_22 : decode cX0_endFrom 22 = .ok (.iaload, 1) := by decide +kernel
theorem dX0_endFrom_23 : decode cX0_endFrom 23 = .ok (.iload_n 2, 1) := by decide +kernel
theorem dX0_endFrom_24 : decode cX0_endFrom 24 = .ok (.if_icmp .ne 10, 3) := by decide +kernel
theorem dX0_endFrom_27 : decode cX0_endFrom 27 = .ok (.aload_n 0, 1) := by decide +kernel
theorem dX0_endFrom_28 : decode cX0_endFrom 28 = .ok (.getfield 9, 3) := by decide +kernel
theorem dX0_endFrom_31 : decode cX0_endFrom 31 = .ok (.iload_n 1, 1) := by decide +kernel
theorem dX0_endFrom_32 : decode cX0_endFrom 32 = .ok (.iaload, 1) := by decide +kernel
theorem dX0_endFrom_33 : decode cX0_endFrom 33 = .ok (.ireturn, 1) := by decide +kernel
theorem dX0_endFrom_34 : decode cX0_endFrom 34 = .ok (.iconst (-1), 1) := by decide +kernel
theorem dX0_endFrom_35 : decode cX0_endFrom 35 = .ok (.ireturn, 1) := by decide +kernel
theorem dX0_reopen_0 : decode cX0_reopen 0 = .ok (.aload_n 0, 1) := by decide +kernel
theorem dX0_reopen_1 : decode cX0_reopen 1 = .ok (.getfield 24, 3) := by decide +kernel
theorem dX0_reopen_4 : decode cX0_reopen 4 = .ok (.iload_n 1, 1) := by decide +kernel
theorem dX0_reopen_5 : decode cX0_reopen 5 = .ok (.iconst 0, 1) := by decide +kernel
theorem dX0_reopen_6 : decode cX0_reopen 6 = .ok (.iastore, 1) := by decide +kernel
theorem dX0_reopen_7 : decode cX0_reopen 7 = .ok (.aload_n 0, 1) := by decide +kernel
theorem dX0_reopen_8 : decode cX0_reopen 8 = .ok (.getfield 27, 3) := by decide +kernel
theorem dX0_reopen_11 : decode cX0_reopen 11 = .ok (.iload_n 1, 1) := by decide +kernel
theorem dX0_reopen_12 : decode cX0_reopen 12 = .ok (.iaload, 1) := by decide +kernel
theorem dX0_reopen_13 : decode cX0_reopen 13 = .ok (.iconst 3, 1) := by decide +kernel
theorem dX0_reopen_14 : decode cX0_reopen 14 = .ok (.if_icmp .ge 13, 3) := by decide +kernel
theorem dX0_reopen_17 : decode cX0_reopen 17 = .ok (.aload_n 0, 1) := by decide +kernel
theorem dX0_reopen_18 : decode cX0_reopen 18 = .ok (.getfield 27, 3) := by decide +kernel
theorem dX0_reopen_21 : decode cX0_reopen 21 = .ok (.iload_n 1, 1) := by decide +kernel
theorem dX0_reopen_22 : decode cX0_reopen 22 = .ok (.dup2, 1) := by decide +kernel
theorem dX0_reopen_23 : decode cX0_reopen 23 = .ok (.iaload, 1) := by decide +kernel
theorem dX0_reopen_24 : decode cX0_reopen 24 = .ok (.iconst 1, 1) := by decide +kernel
theorem dX0_reopen_25 : decode cX0_reopen 25 = .ok (.iadd, 1) := by decide +kernel
theorem dX0_reopen_26 : decode cX0_reopen 26 = .ok (.iastore, 1) := by decide +kernel
theorem dX0_reopen_27 : decode cX0_reopen 27 = .ok (.return_, 1) := by decide +kernel
theorem dX0_countClosed_0 : decode cX0_countClosed 0 = .ok (.iconst 0, 1) := by decide +kernel
theorem dX0_countClosed_1 : decode cX0_countClosed 1 = .ok (.istore_n 1, 1) := by decide +kernel
theorem dX0_countClosed_2 : decode cX0_countClosed 2 = .ok (.iconst 0, 1) := by decide +kernel
theorem dX0_countClosed_3 : decode cX0_countClosed 3 = .ok (.istore_n 2, 1) := by decide +kernel
theorem dX0_countClosed_4 : decode cX0_countClosed 4 = .ok (.iload_n 2, 1) := by decide +kernel
theorem dX0_countClosed_5 : decode cX0_countClosed 5 = .ok (.aload_n 0, 1) := by decide +kernel
theorem dX0_countClosed_6 : decode cX0_countClosed 6 = .ok (.getfield 39, 3) := by decide +kernel
theorem dX0_countClosed_9 : decode cX0_countClosed 9 = .ok (.if_icmp .ge 21, 3) := by decide +kernel
theorem dX0_countClosed_12 : decode cX0_countClosed 12 = .ok (.aload_n 0, 1) := by decide +kernel
theorem dX0_countClosed_13 : decode cX0_countClosed 13 = .ok (.getfield 30, 3) := by decide +kernel
theorem dX0_countClosed_16 : decode cX0_countClosed 16 = .ok (.iload_n 2, 1) := by decide +kernel
theorem dX0_countClosed_17 : decode cX0_countClosed 17 = .ok (.iaload, 1) := by decide +kernel
theorem dX0_countClosed_18 : decode cX0_countClosed 18 = .ok (.ifCond .le 6, 3) := by decide +kernel
theorem dX0_countClosed_21 : decode cX0_countClosed 21 = .ok (.iinc 1 1, 3) := by decide +kernel
theorem dX0_countClosed_24 : decode cX0_countClosed 24 = .ok (.iinc 2 1, 3) := by decide +kernel
theorem dX0_countClosed_27 : decode cX0_countClosed 27 = .ok (.goto (-23), 3) := by decide +kernel
theorem dX0_countClosed_30 : decode cX0_countClosed 30 = .ok (.iload_n 1, 1) := by decide +kernel
theorem dX0_countClosed_31 : decode cX0_countClosed 31 = .ok (.ireturn, 1) := by decide +kernel
theorem dX0_openWithMostWear_0 : decode cX0_openWithMostWear 0 = .ok (.iconst (-1), 1) := by decide +kernel
theorem dX0_openWithMostWear_1 : decode cX0_openWithMostWear 1 = .ok (.istore_n 1, 1) := by decide +kernel
theorem dX0_openWithMostWear_2 : decode cX0_openWithMostWear 2 = .ok (.iconst (-1), 1) := by decide +kernel
theorem dX0_openWithMostWear_3 : decode cX0_openWithMostWear 3 = .ok (.istore_n 2, 1) := by decide +kernel
theorem dX0_openWithMostWear_4 : decode cX0_openWithMostWear 4 = .ok (.iconst 0, 1) := by decide +kernel
theorem dX0_openWithMostWear_5 : decode cX0_openWithMostWear 5 = .ok (.istore_n 3, 1) := by decide +kernel
theorem dX0_openWithMostWear_6 : decode cX0_openWithMostWear 6 = .ok (.iload_n 3, 1) := by decide +kernel
theorem dX0_openWithMostWear_7 : decode cX0_openWithMostWear 7 = .ok (.aload_n 0, 1) := by decide +kernel
theorem dX0_openWithMostWear_8 : decode cX0_openWithMostWear 8 = .ok (.getfield 39, 3) := by decide +kernel
theorem dX0_openWithMostWear_11 : decode cX0_openWithMostWear 11 = .ok (.if_icmp .ge 37, 3) := by decide +kernel
theorem dX0_openWithMostWear_14 : decode cX0_openWithMostWear 14 = .ok (.aload_n 0, 1) := by decide +kernel
theorem dX0_openWithMostWear_15 : decode cX0_openWithMostWear 15 = .ok (.getfield 30, 3) := by decide +kernel
theorem dX0_openWithMostWear_18 : decode cX0_openWithMostWear 18 = .ok (.iload_n 3, 1) := by decide +kernel
theorem dX0_openWithMostWear_19 : decode cX0_openWithMostWear 19 = .ok (.iaload, 1) := by decide +kernel
theorem dX0_openWithMostWear_20 : decode cX0_openWithMostWear 20 = .ok (.ifCond .ne 22, 3) := by decide +kernel
theorem dX0_openWithMostWear_23 : decode cX0_openWithMostWear 23 = .ok (.aload_n 0, 1) := by decide +kernel
theorem dX0_openWithMostWear_24 : decode cX0_openWithMostWear 24 = .ok (.getfield 24, 3) := by decide +kernel
theorem dX0_openWithMostWear_27 : decode cX0_openWithMostWear 27 = .ok (.iload_n 3, 1) := by decide +kernel
theorem dX0_openWithMostWear_28 : decode cX0_openWithMostWear 28 = .ok (.iaload, 1) := by decide +kernel
theorem dX0_openWithMostWear_29 : decode cX0_openWithMostWear 29 = .ok (.iload_n 2, 1) := by decide +kernel
theorem dX0_openWithMostWear_30 : decode cX0_openWithMostWear 30 = .ok (.if_icmp .le 12, 3) := by decide +kernel
theorem dX0_openWithMostWear_33 : decode cX0_openWithMostWear 33 = .ok (.aload_n 0, 1) := by decide +kernel
theorem dX0_openWithMostWear_34 : decode cX0_openWithMostWear 34 = .ok (.getfield 24, 3) := by decide +kernel
theorem dX0_openWithMostWear_37 : decode cX0_openWithMostWear 37 = .ok (.iload_n 3, 1) := by decide +kernel
theorem dX0_openWithMostWear_38 : decode cX0_openWithMostWear 38 = .ok (.iaload, 1) := by decide +kernel
theorem dX0_openWithMostWear_39 : decode cX0_openWithMostWear 39 = .ok (.istore_n 2, 1) := by decide +kernel
theorem dX0_openWithMostWear_40 : decode cX0_openWithMostWear 40 = .ok (.iload_n 3, 1) := by decide +kernel
theorem dX0_openWithMostWear_41 : decode cX0_openWithMostWear 41 = .ok (.istore_n 1, 1) := by decide +kernel
theorem dX0_openWithMostWear_42 : decode cX0_openWithMostWear 42 = .ok (.iinc 3 1, 3) := by decide +kernel
theorem dX0_openWithMostWear_45 : decode cX0_openWithMostWear 45 = .ok (.goto (-39), 3) := by decide +kernel
theorem dX0_openWithMostWear_48 : decode cX0_openWithMostWear 48 = .ok (.iload_n 1, 1) := by decide +kernel
theorem dX0_openWithMostWear_49 : decode cX0_openWithMostWear 49 = .ok (.ireturn, 1) := by decide +kernel
theorem dX1_init_0 : decode cX1_init 0 = .ok (.aload_n 0, 1) := by decide +kernel
theorem dX1_init_1 : decode cX1_init 1 = .ok (.invokespecial 3, 3) := by decide +kernel
theorem dX1_init_4 : decode cX1_init 4 = .ok (.aload_n 0, 1) := by decide +kernel
theorem dX1_init_5 : decode cX1_init 5 = .ok (.bipush 12, 2) := by decide +kernel
theorem dX1_init_7 : decode cX1_init 7 = .ok (.newarray .int, 2) := by decide +kernel
theorem dX1_init_9 : decode cX1_init 9 = .ok (.putfield 9, 3) := by decide +kernel
theorem dX1_init_12 : decode cX1_init 12 = .ok (.aload_n 0, 1) := by decide +kernel
theorem dX1_init_13 : decode cX1_init 13 = .ok (.bipush 12, 2) := by decide +kernel
theorem dX1_init_15 : decode cX1_init 15 = .ok (.newarray .int, 2) := by decide +kernel
theorem dX1_init_17 : decode cX1_init 17 = .ok (.putfield 15, 3) := by decide +kernel
theorem dX1_init_20 : decode cX1_init 20 = .ok (.aload_n 0, 1) := by decide +kernel
theorem dX1_init_21 : decode cX1_init 21 = .ok (.bipush 12, 2) := by decide +kernel
theorem dX1_init_23 : decode cX1_init 23 = .ok (.newarray .int, 2) := by decide +kernel
theorem dX1_init_25 : decode cX1_init 25 = .ok (.putfield 18, 3) := by decide +kernel
theorem dX1_init_28 : decode cX1_init 28 = .ok (.aload_n 0, 1) := by decide +kernel
theorem dX1_init_29 : decode cX1_init 29 = .ok (.bipush 12, 2) := by decide +kernel
theorem dX1_init_31 : decode cX1_init 31 = .ok (.newarray .int, 2) := by decide +kernel
theorem dX1_init_33 : decode cX1_init 33 = .ok (.putfield 21, 3) := by decide +kernel
theorem dX1_init_36 : decode cX1_init 36 = .ok (.aload_n 0, 1) := by decide +kernel
theorem dX1_init_37 : decode cX1_init 37 = .ok (.bipush 12, 2) := by decide +kernel
theorem dX1_init_39 : decode cX1_init 39 = .ok (.newarray .int, 2) := by decide +kernel
theorem dX1_init_41 : decode cX1_init 41 = .ok (.putfield 24, 3) := by decide +kernel
theorem dX1_init_44 : decode cX1_init 44 = .ok (.aload_n 0, 1) := by decide +kernel
theorem dX1_init_45 : decode cX1_init 45 = .ok (.bipush 12, 2) := by decide +kernel
theorem dX1_init_47 : decode cX1_init 47 = .ok (.newarray .int, 2) := by decide +kernel
theorem dX1_init_49 : decode cX1_init 49 = .ok (.putfield 27, 3) := by decide +kernel
theorem dX1_init_52 : decode cX1_init 52 = .ok (.aload_n 0, 1) := by decide +kernel
theorem dX1_init_53 : decode cX1_init 53 = .ok (.bipush 12, 2) := by decide +kernel
theorem dX1_init_55 : decode cX1_init 55 = .ok (.newarray .int, 2) := by decide +kernel
theorem dX1_init_57 : decode cX1_init 57 = .ok (.putfield 30, 3) := by decide +kernel
theorem dX1_init_60 : decode cX1_init 60 = .ok (.aload_n 0, 1) := by decide +kernel
theorem dX1_init_61 : decode cX1_init 61 = .ok (.bipush 12, 2) := by decide +kernel
theorem dX1_init_63 : decode cX1_init 63 = .ok (.newarray .int, 2) := by decide +kernel
theorem dX1_init_65 : decode cX1_init 65 = .ok (.putfield 33, 3) := by decide +kernel
theorem dX1_init_68 : decode cX1_init 68 = .ok (.aload_n 0, 1) := by decide +kernel
theorem dX1_init_69 : decode cX1_init 69 = .ok (.bipush 12, 2) := by decide +kernel
theorem dX1_init_71 : decode cX1_init 71 = .ok (.newarray .int, 2) := by decide +kernel
theorem dX1_init_73 : decode cX1_init 73 = .ok (.putfield 36, 3) := by decide +kernel
theorem dX1_init_76 : decode cX1_init 76 = .ok (.return_, 1) := by decide +kernel
theorem dX1_copyFrom_0 : decode cX1_copyFrom 0 = .ok (.aload_n 1, 1) := by decide +kernel
theorem dX1_copyFrom_1 : decode cX1_copyFrom 1 = .ok (.getfield 9, 3) := by decide +kernel
theorem dX1_copyFrom_4 : decode cX1_copyFrom 4 = .ok (.iconst 0, 1) := by decide +kernel
theorem dX1_copyFrom_5 : decode cX1_copyFrom 5 = .ok (.aload_n 0, 1) := by decide +kernel
theorem dX1_copyFrom_6 : decode cX1_copyFrom 6 = .ok (.getfield 9, 3) := by decide +kernel
theorem dX1_copyFrom_9 : decode cX1_copyFrom 9 = .ok (.iconst 0, 1) := by decide +kernel
theorem dX1_copyFrom_10 : decode cX1_copyFrom 10 = .ok (.bipush 12, 2) := by decide +kernel
theorem dX1_copyFrom_12 : decode cX1_copyFrom 12 = .ok (.invokestatic 39, 3) := by decide +kernel
theorem dX1_copyFrom_15 : decode cX1_copyFrom 15 = .ok (.aload_n 1, 1) := by decide +kernel
theorem dX1_copyFrom_16 : decode cX1_copyFrom 16 = .ok (.getfield 15, 3) := by decide +kernel
theorem dX1_copyFrom_19 : decode cX1_copyFrom 19 = .ok (.iconst 0, 1) := by decide +kernel
theorem dX1_copyFrom_20 : decode cX1_copyFrom 20 = .ok (.aload_n 0, 1) := by decide +kernel
theorem dX1_copyFrom_21 : decode cX1_copyFrom 21 = .ok (.getfield 15, 3) := by decide +kernel
theorem dX1_copyFrom_24 : decode cX1_copyFrom 24 = .ok (.iconst 0, 1) := by decide +kernel
theorem dX1_copyFrom_25 : decode cX1_copyFrom 25 = .ok (.bipush 12, 2) := by decide +kernel
theorem dX1_copyFrom_27 : decode cX1_copyFrom 27 = .ok (.invokestatic 39, 3) := by decide +kernel
theorem dX1_copyFrom_30 : decode cX1_copyFrom 30 = .ok (.aload_n 1, 1) := by decide +kernel
theorem dX1_copyFrom_31 : decode cX1_copyFrom 31 = .ok (.getfield 18, 3) := by decide +kernel
theorem dX1_copyFrom_34 : decode cX1_copyFrom 34 = .ok (.iconst 0, 1) := by decide +kernel
theorem dX1_copyFrom_35 : decode cX1_copyFrom 35 = .ok (.aload_n 0, 1) := by decide +kernel
theorem dX1_copyFrom_36 : decode cX1_copyFrom 36 = .ok (.getfield 18, 3) := by decide +kernel
theorem dX1_copyFrom_39 : decode cX1_copyFrom 39 = .ok (.iconst 0, 1) := by decide +kernel
theorem dX1_copyFrom_40 : decode cX1_copyFrom 40 = .ok (.bipush 12, 2) := by decide +kernel
theorem dX1_copyFrom_42 : decode cX1_copyFrom 42 = .ok (.invokestatic 39, 3) := by decide +kernel
theorem dX1_copyFrom_45 : decode cX1_copyFrom 45 = .ok (.aload_n 1, 1) := by decide +kernel
theorem dX1_copyFrom_46 : decode cX1_copyFrom 46 = .ok (.getfield 21, 3) := by decide +kernel
theorem dX1_copyFrom_49 : decode cX1_copyFrom 49 = .ok (.iconst 0, 1) := by decide +kernel
theorem dX1_copyFrom_50 : decode cX1_copyFrom 50 = .ok (.aload_n 0, 1) := by decide +kernel
theorem dX1_copyFrom_51 : decode cX1_copyFrom 51 = .ok (.getfield 21, 3) := by decide +kernel
theorem dX1_copyFrom_54 : decode cX1_copyFrom 54 = .ok (.iconst 0, 1) := by decide +kernel
theorem dX1_copyFrom_55 : decode cX1_copyFrom 55 = .ok (.bipush 12, 2) := by decide +kernel
theorem dX1_copyFrom_57 : decode cX1_copyFrom 57 = .ok (.invokestatic 39, 3) := by decide +kernel
theorem dX1_copyFrom_60 : decode cX1_copyFrom 60 = .ok (.aload_n 1, 1) := by decide +kernel
theorem dX1_copyFrom_61 : decode cX1_copyFrom 61 = .ok (.getfield 24, 3) := by decide +kernel
theorem dX1_copyFrom_64 : decode cX1_copyFrom 64 = .ok (.iconst 0, 1) := by decide +kernel
theorem dX1_copyFrom_65 : decode cX1_copyFrom 65 = .ok (.aload_n 0, 1) := by decide +kernel
theorem dX1_copyFrom_66 : decode cX1_copyFrom 66 = .ok (.getfield 24, 3) := by decide +kernel
theorem dX1_copyFrom_69 : decode cX1_copyFrom 69 = .ok (.iconst 0, 1) := by decide +kernel
theorem dX1_copyFrom_70 : decode cX1_copyFrom 70 = .ok (.bipush 12, 2) := by decide +kernel
theorem dX1_copyFrom_72 : decode cX1_copyFrom 72 = .ok (.invokestatic 39, 3) := by decide +kernel
theorem dX1_copyFrom_75 : decode cX1_copyFrom 75 = .ok (.aload_n 1, 1) := by decide +kernel
theorem dX1_copyFrom_76 : decode cX1_copyFrom 76 = .ok (.getfield 27, 3) := by decide +kernel
theorem dX1_copyFrom_79 : decode cX1_copyFrom 79 = .ok (.iconst 0, 1) := by decide +kernel
theorem dX1_copyFrom_80 : decode cX1_copyFrom 80 = .ok (.aload_n 0, 1) := by decide +kernel
theorem dX1_copyFrom_81 : decode cX1_copyFrom 81 = .ok (.getfield 27, 3) := by decide +kernel
theorem dX1_copyFrom_84 : decode cX1_copyFrom 84 = .ok (.iconst 0, 1) := by decide +kernel
theorem dX1_copyFrom_85 : decode cX1_copyFrom 85 = .ok (.bipush 12, 2) := by decide +kernel
theorem dX1_copyFrom_87 : decode cX1_copyFrom 87 = .ok (.invokestatic 39, 3) := by decide +kernel
theorem dX1_copyFrom_90 : decode cX1_copyFrom 90 = .ok (.aload_n 1, 1) := by decide +kernel
theorem dX1_copyFrom_91 : decode cX1_copyFrom 91 = .ok (.getfield 30, 3) := by decide +kernel
theorem dX1_copyFrom_94 : decode cX1_copyFrom 94 = .ok (.iconst 0, 1) := by decide +kernel
theorem dX1_copyFrom_95 : decode cX1_copyFrom 95 = .ok (.aload_n 0, 1) := by decide +kernel
theorem dX1_copyFrom_96 : decode cX1_copyFrom 96 = .ok (.getfield 30, 3) := by decide +kernel
theorem dX1_copyFrom_99 : decode cX1_copyFrom 99 = .ok (.iconst 0, 1) := by decide +kernel
theorem dX1_copyFrom_100 : decode cX1_copyFrom 100 = .ok (.bipush 12, 2) := by decide +kernel
theorem dX1_copyFrom_102 : decode cX1_copyFrom 102 = .ok (.invokestatic 39, 3) := by decide +kernel
theorem dX1_copyFrom_105 : decode cX1_copyFrom 105 = .ok (.aload_n 1, 1) := by decide +kernel
theorem dX1_copyFrom_106 : decode cX1_copyFrom 106 = .ok (.getfield 33, 3) := by decide +kernel
theorem dX1_copyFrom_109 : decode cX1_copyFrom 109 = .ok (.iconst 0, 1) := by decide +kernel
theorem dX1_copyFrom_110 : decode cX1_copyFrom 110 = .ok (.aload_n 0, 1) := by decide +kernel
theorem dX1_copyFrom_111 : decode cX1_copyFrom 111 = .ok (.getfield 33, 3) := by decide +kernel
theorem dX1_copyFrom_114 : decode cX1_copyFrom 114 = .ok (.iconst 0, 1) := by decide +kernel
theorem dX1_copyFrom_115 : decode cX1_copyFrom 115 = .ok (.bipush 12, 2) := by decide +kernel
theorem dX1_copyFrom_117 : decode cX1_copyFrom 117 = .ok (.invokestatic 39, 3) := by decide +kernel
theorem dX1_copyFrom_120 : decode cX1_copyFrom 120 = .ok (.aload_n 1, 1) := by decide +kernel
theorem dX1_copyFrom_121 : decode cX1_copyFrom 121 = .ok (.getfield 36, 3) := by decide +kernel
theorem dX1_copyFrom_124 : decode cX1_copyFrom 124 = .ok (.iconst 0, 1) := by decide +kernel
theorem dX1_copyFrom_125 : decode cX1_copyFrom 125 = .ok (.aload_n 0, 1) := by decide +kernel
theorem dX1_copyFrom_126 : decode cX1_copyFrom 126 = .ok (.getfield 36, 3) := by decide +kernel
theorem dX1_copyFrom_129 : decode cX1_copyFrom 129 = .ok (.iconst 0, 1) := by decide +kernel
theorem dX1_copyFrom_130 : decode cX1_copyFrom 130 = .ok (.bipush 12, 2) := by decide +kernel
theorem dX1_copyFrom_132 : decode cX1_copyFrom 132 = .ok (.invokestatic 39, 3) := by decide +kernel
theorem dX1_copyFrom_135 : decode cX1_copyFrom 135 = .ok (.aload_n 0, 1) := by decide +kernel
theorem dX1_copyFrom_136 : decode cX1_copyFrom 136 = .ok (.aload_n 1, 1) := by decide +kernel
theorem dX1_copyFrom_137 : decode cX1_copyFrom 137 = .ok (.getfield 45, 3) := by decide +kernel
theorem dX1_copyFrom_140 : decode cX1_copyFrom 140 = .ok (.putfield 45, 3) := by decide +kernel
theorem dX1_copyFrom_143 : decode cX1_copyFrom 143 = .ok (.aload_n 0, 1) := by decide +kernel
theorem dX1_copyFrom_144 : decode cX1_copyFrom 144 = .ok (.aload_n 1, 1) := by decide +kernel
theorem dX1_copyFrom_145 : decode cX1_copyFrom 145 = .ok (.getfield 49, 3) := by decide +kernel
theorem dX1_copyFrom_148 : decode cX1_copyFrom 148 = .ok (.putfield 49, 3) := by decide +kernel
theorem dX1_copyFrom_151 : decode cX1_copyFrom 151 = .ok (.return_, 1) := by decide +kernel
theorem dX1_put_0 : decode cX1_put 0 = .ok (.aload_n 0, 1) := by decide +kernel
theorem dX1_put_1 : decode cX1_put 1 = .ok (.getfield 45, 3) := by decide +kernel
theorem dX1_put_4 : decode cX1_put 4 = .ok (.istore 5, 2) := by decide +kernel
theorem dX1_put_6 : decode cX1_put 6 = .ok (.aload_n 0, 1) := by decide +kernel
theorem dX1_put_7 : decode cX1_put 7 = .ok (.getfield 9, 3) := by decide +kernel
theorem dX1_put_10 : decode cX1_put 10 = .ok (.iload 5, 2) := by decide +kernel
theorem dX1_put_12 : decode cX1_put 12 = .ok (.iload_n 1, 1) := by decide +kernel
theorem dX1_put_13 : decode cX1_put 13 = .ok (.iastore, 1) := by decide +kernel
theorem dX1_put_14 : decode cX1_put 14 = .ok (.aload_n 0, 1) := by decide +kernel
theorem dX1_put_15 : decode cX1_put 15 = .ok (.getfield 15, 3) := by decide +kernel
theorem dX1_put_18 : decode cX1_put 18 = .ok (.iload 5, 2) := by decide +kernel
theorem dX1_put_20 : decode cX1_put 20 = .ok (.iconst (-1), 1) := by decide +kernel
theorem dX1_put_21 : decode cX1_put 21 = .ok (.iastore, 1) := by decide +kernel
theorem dX1_put_22 : decode cX1_put 22 = .ok (.aload_n 0, 1) := by decide +kernel
theorem dX1_put_23 : decode cX1_put 23 = .ok (.getfield 24, 3) := by decide +kernel
theorem dX1_put_26 : decode cX1_put 26 = .ok (.iload 5, 2) := by decide +kernel
theorem dX1_put_28 : decode cX1_put 28 = .ok (.iload_n 2, 1) := by decide +kernel
theorem dX1_put_29 : decode cX1_put 29 = .ok (.iastore, 1) := by decide +kernel
theorem dX1_put_30 : decode cX1_put 30 = .ok (.aload_n 0, 1) := by decide +kernel
theorem dX1_put_31 : decode cX1_put 31 = .ok (.getfield 27, 3) := by decide +kernel
theorem dX1_put_34 : decode cX1_put 34 = .ok (.iload 5, 2) := by decide +kernel
theorem dX1_put_36 : decode cX1_put 36 = .ok (.iconst 0, 1) := by decide +kernel
theorem dX1_put_37 : decode cX1_put 37 = .ok (.iastore, 1) := by decide +kernel
theorem dX1_put_38 : decode cX1_put 38 = .ok (.aload_n 0, 1) := by decide +kernel
theorem dX1_put_39 : decode cX1_put 39 = .ok (.getfield 30, 3) := by decide +kernel
theorem dX1_put_42 : decode cX1_put 42 = .ok (.iload 5, 2) := by decide +kernel
theorem dX1_put_44 : decode cX1_put 44 = .ok (.iload 4, 2) := by decide +kernel
theorem dX1_put_46 : decode cX1_put 46 = .ok (.iastore, 1) := by decide +kernel
theorem dX1_put_47 : decode cX1_put 47 = .ok (.aload_n 0, 1) := by decide +kernel
theorem dX1_put_48 : decode cX1_put 48 = .ok (.getfield 33, 3) := by decide +kernel
theorem dX1_put_51 : decode cX1_put 51 = .ok (.iload 5, 2) := by decide +kernel
theorem dX1_put_53 : decode cX1_put 53 = .ok (.iload_n 3, 1) := by decide +kernel
theorem dX1_put_54 : decode cX1_put 54 = .ok (.iastore, 1) := by decide +kernel
theorem dX1_put_55 : decode cX1_put 55 = .ok (.aload_n 0, 1) := by decide +kernel
theorem dX1_put_56 : decode cX1_put 56 = .ok (.getfield 36, 3) := by decide +kernel
theorem dX1_put_59 : decode cX1_put 59 = .ok (.iload 5, 2) := by decide +kernel
theorem dX1_put_61 : decode cX1_put 61 = .ok (.iconst (-1), 1) := by decide +kernel
theorem dX1_put_62 : decode cX1_put 62 = .ok (.iastore, 1) := by decide +kernel
theorem dX1_put_63 : decode cX1_put 63 = .ok (.aload_n 0, 1) := by decide +kernel
theorem dX1_put_64 : decode cX1_put 64 = .ok (.dup, 1) := by decide +kernel
theorem dX1_put_65 : decode cX1_put 65 = .ok (.getfield 45, 3) := by decide +kernel
theorem dX1_put_68 : decode cX1_put 68 = .ok (.iconst 1, 1) := by decide +kernel
theorem dX1_put_69 : decode cX1_put 69 = .ok (.iadd, 1) := by decide +kernel
theorem dX1_put_70 : decode cX1_put 70 = .ok (.putfield 45, 3) := by decide +kernel
theorem dX1_put_73 : decode cX1_put 73 = .ok (.iload 5, 2) := by decide +kernel
theorem dX1_put_75 : decode cX1_put 75 = .ok (.ireturn, 1) := by decide +kernel
theorem dX1_isIn_0 : decode cX1_isIn 0 = .ok (.aload_n 0, 1) := by decide +kernel
theorem dX1_isIn_1 : decode cX1_isIn 1 = .ok (.getfield 36, 3) := by decide +kernel
theorem dX1_isIn_4 : decode cX1_isIn 4 = .ok (.iload_n 1, 1) := by decide +kernel
theorem dX1_isIn_5 : decode cX1_isIn 5 = .ok (.iaload, 1) := by decide +kernel
theorem dX1_isIn_6 : decode cX1_isIn 6 = .ok (.ifCond .lt 7, 3) := by decide +kernel
theorem dX1_isIn_9 : decode cX1_isIn 9 = .ok (.iconst 1, 1) := by decide +kernel
theorem dX1_isIn_10 : decode cX1_isIn 10 = .ok (.goto 4, 3) := by decide +kernel
theorem dX1_isIn_13 : decode cX1_isIn 13 = .ok (.iconst 0, 1) := by decide +kernel
theorem dX1_isIn_14 : decode cX1_isIn 14 = .ok (.ireturn, 1) := by decide +kernel
theorem dX1_take_0 : decode cX1_take 0 = .ok (.aload_n 0, 1) := by decide +kernel
theorem dX1_take_1 : decode cX1_take 1 = .ok (.getfield 9, 3) := by decide +kernel
theorem dX1_take_4 : decode cX1_take 4 = .ok (.iload_n 1, 1) := by decide +kernel
theorem dX1_take_5 : decode cX1_take 5 = .ok (.iconst (-1), 1) := by decide +kernel
theorem dX1_take_6 : decode cX1_take 6 = .ok (.iastore, 1) := by decide +kernel
theorem dX1_take_7 : decode cX1_take 7 = .ok (.aload_n 0, 1) := by decide +kernel
theorem dX1_take_8 : decode cX1_take 8 = .ok (.getfield 15, 3) := by decide +kernel
theorem dX1_take_11 : decode cX1_take 11 = .ok (.iload_n 1, 1) := by decide +kernel
theorem dX1_take_12 : decode cX1_take 12 = .ok (.iload_n 2, 1) := by decide +kernel
theorem dX1_take_13 : decode cX1_take 13 = .ok (.iastore, 1) := by decide +kernel
theorem dX1_take_14 : decode cX1_take 14 = .ok (.aload_n 0, 1) := by decide +kernel
theorem dX1_take_15 : decode cX1_take 15 = .ok (.getfield 18, 3) := by decide +kernel
theorem dX1_take_18 : decode cX1_take 18 = .ok (.iload_n 1, 1) := by decide +kernel
theorem dX1_take_19 : decode cX1_take 19 = .ok (.iload_n 3, 1) := by decide +kernel
theorem dX1_take_20 : decode cX1_take 20 = .ok (.iastore, 1) := by decide +kernel
theorem dX1_take_21 : decode cX1_take 21 = .ok (.aload_n 0, 1) := by decide +kernel
theorem dX1_take_22 : decode cX1_take 22 = .ok (.getfield 21, 3) := by decide +kernel
theorem dX1_take_25 : decode cX1_take 25 = .ok (.iload_n 1, 1) := by decide +kernel
theorem dX1_take_26 : decode cX1_take 26 = .ok (.iload 4, 2) := by decide +kernel
theorem dX1_take_28 : decode cX1_take 28 = .ok (.iastore, 1) := by decide +kernel
theorem dX1_take_29 : decode cX1_take 29 = .ok (.return_, 1) := by decide +kernel
theorem dX1_walk_0 : decode cX1_walk 0 = .ok (.aload_n 0, 1) := by decide +kernel
theorem dX1_walk_1 : decode cX1_walk 1 = .ok (.getfield 15, 3) := by decide +kernel
theorem dX1_walk_4 : decode cX1_walk 4 = .ok (.iload_n 1, 1) := by decide +kernel
theorem dX1_walk_5 : decode cX1_walk 5 = .ok (.iaload, 1) := by decide +kernel
theorem dX1_walk_6 : decode cX1_walk 6 = .ok (.ifCond .ge 4, 3) := by decide +kernel
theorem dX1_walk_9 : decode cX1_walk 9 = .ok (.return_, 1) := by decide +kernel
theorem dX1_walk_10 : decode cX1_walk 10 = .ok (.aload_n 0, 1) := by decide +kernel
theorem dX1_walk_11 : decode cX1_walk 11 = .ok (.getfield 21, 3) := by decide +kernel
theorem dX1_walk_14 : decode cX1_walk 14 = .ok (.iload_n 1, 1) := by decide +kernel
theorem dX1_walk_15 : decode cX1_walk 15 = .ok (.dup2, 1) := by decide +kernel
theorem dX1_walk_16 : decode cX1_walk 16 = .ok (.iaload, 1) := by decide +kernel
theorem dX1_walk_17 : decode cX1_walk 17 = .ok (.iconst 1, 1) := by decide +kernel
theorem dX1_walk_18 : decode cX1_walk 18 = .ok (.isub, 1) := by decide +kernel
theorem dX1_walk_19 : decode cX1_walk 19 = .ok (.iastore, 1) := by decide +kernel
theorem dX1_walk_20 : decode cX1_walk 20 = .ok (.aload_n 0, 1) := by decide +kernel
theorem dX1_walk_21 : decode cX1_walk 21 = .ok (.getfield 21, 3) := by decide +kernel
theorem dX1_walk_24 : decode cX1_walk 24 = .ok (.iload_n 1, 1) := by decide +kernel
theorem dX1_walk_25 : decode cX1_walk 25 = .ok (.iaload, 1) := by decide +kernel
theorem dX1_walk_26 : decode cX1_walk 26 = .ok (.ifCond .le 4, 3) := by decide +kernel
theorem dX1_walk_29 : decode cX1_walk 29 = .ok (.return_, 1) := by decide +kernel
theorem dX1_walk_30 : decode cX1_walk 30 = .ok (.aload_n 0, 1) := by decide +kernel
theorem dX1_walk_31 : decode cX1_walk 31 = .ok (.getfield 9, 3) := by decide +kernel
theorem dX1_walk_34 : decode cX1_walk 34 = .ok (.iload_n 1, 1) := by decide +kernel
theorem dX1_walk_35 : decode cX1_walk 35 = .ok (.aload_n 0, 1) := by decide +kernel
theorem dX1_walk_36 : decode cX1_walk 36 = .ok (.getfield 18, 3) := by decide +kernel
theorem dX1_walk_39 : decode cX1_walk 39 = .ok (.iload_n 1, 1) := by decide +kernel
theorem dX1_walk_40 : decode cX1_walk 40 = .ok (.iaload, 1) := by decide +kernel
theorem dX1_walk_41 : decode cX1_walk 41 = .ok (.iastore, 1) := by decide +kernel
theorem dX1_walk_42 : decode cX1_walk 42 = .ok (.aload_n 0, 1) := by decide +kernel
theorem dX1_walk_43 : decode cX1_walk 43 = .ok (.getfield 15, 3) := by decide +kernel
theorem dX1_walk_46 : decode cX1_walk 46 = .ok (.iload_n 1, 1) := by decide +kernel
theorem dX1_walk_47 : decode cX1_walk 47 = .ok (.iconst (-1), 1) := by decide +kernel
theorem dX1_walk_48 : decode cX1_walk 48 = .ok (.iastore, 1) := by decide +kernel
theorem dX1_walk_49 : decode cX1_walk 49 = .ok (.aload_n 0, 1) := by decide +kernel
theorem dX1_walk_50 : decode cX1_walk 50 = .ok (.getfield 9, 3) := by decide +kernel
theorem dX1_walk_53 : decode cX1_walk 53 = .ok (.iload_n 1, 1) := by decide +kernel
theorem dX1_walk_54 : decode cX1_walk 54 = .ok (.iaload, 1) := by decide +kernel
theorem dX1_walk_55 : decode cX1_walk 55 = .ok (.aload_n 0, 1) := by decide +kernel
theorem dX1_walk_56 : decode cX1_walk 56 = .ok (.getfield 24, 3) := by decide +kernel
theorem dX1_walk_59 : decode cX1_walk 59 = .ok (.iload_n 1, 1) := by decide +kernel
theorem dX1_walk_60 : decode cX1_walk 60 = .ok (.iaload, 1) := by decide +kernel
theorem dX1_walk_61 : decode cX1_walk 61 = .ok (.if_icmp .ne 29, 3) := by decide +kernel
theorem dX1_walk_64 : decode cX1_walk 64 = .ok (.aload_n 0, 1) := by decide +kernel
theorem dX1_walk_65 : decode cX1_walk 65 = .ok (.getfield 36, 3) := by decide +kernel
theorem dX1_walk_68 : decode cX1_walk 68 = .ok (.iload_n 1, 1) := by decide +kernel
theorem dX1_walk_69 : decode cX1_walk 69 = .ok (.iload_n 2, 1) := by decide +kernel
theorem dX1_walk_70 : decode cX1_walk 70 = .ok (.iconst 1, 1) := by decide +kernel
theorem dX1_walk_71 : decode cX1_walk 71 = .ok (.iadd, 1) := by decide +kernel
theorem dX1_walk_72 : decode cX1_walk 72 = .ok (.aload_n 0, 1) := by decide +kernel
theorem dX1_walk_73 : decode cX1_walk 73 = .ok (.getfield 30, 3) := by decide +kernel
theorem dX1_walk_76 : decode cX1_walk 76 = .ok (.iload_n 1, 1) := by decide +kernel
theorem dX1_walk_77 : decode cX1_walk 77 = .ok (.iaload, 1) := by decide +kernel
theorem dX1_walk_78 : decode cX1_walk 78 = .ok (.isub, 1) := by decide +kernel
theorem dX1_walk_79 : decode cX1_walk 79 = .ok (.iastore, 1) := by decide +kernel
theorem dX1_walk_80 : decode cX1_walk 80 = .ok (.aload_n 0, 1) := by decide +kernel
theorem dX1_walk_81 : decode cX1_walk 81 = .ok (.dup, 1) := by decide +kernel
theorem dX1_walk_82 : decode cX1_walk 82 = .ok (.getfield 49, 3) := by decide +kernel
theorem dX1_walk_85 : decode cX1_walk 85 = .ok (.iconst 1, 1) := by decide +kernel
theorem dX1_walk_86 : decode cX1_walk 86 = .ok (.iadd, 1) := by decide +kernel
theorem dX1_walk_87 : decode cX1_walk 87 = .ok (.putfield 49, 3) := by decide +kernel
theorem dX1_walk_90 : decode cX1_walk 90 = .ok (.return_, 1) := by decide +kernel
theorem dX1_countOn_0 : decode cX1_countOn 0 = .ok (.iconst 0, 1) := by decide +kernel
theorem dX1_countOn_1 : decode cX1_countOn 1 = .ok (.istore_n 2, 1) := by decide +kernel
theorem dX1_countOn_2 : decode cX1_countOn 2 = .ok (.iconst 0, 1) := by decide +kernel
theorem dX1_countOn_3 : decode cX1_countOn 3 = .ok (.istore_n 3, 1) := by decide +kernel
theorem dX1_countOn_4 : decode cX1_countOn 4 = .ok (.iload_n 3, 1) := by decide +kernel
theorem dX1_countOn_5 : decode cX1_countOn 5 = .ok (.aload_n 0, 1) := by decide +kernel
theorem dX1_countOn_6 : decode cX1_countOn 6 = .ok (.getfield 45, 3) := by decide +kernel
theorem dX1_countOn_9 : decode cX1_countOn 9 = .ok (.if_icmp .ge 22, 3) := by decide +kernel
theorem dX1_countOn_12 : decode cX1_countOn 12 = .ok (.aload_n 0, 1) := by decide +kernel
theorem dX1_countOn_13 : decode cX1_countOn 13 = .ok (.getfield 15, 3) := by decide +kernel
theorem dX1_countOn_16 : decode cX1_countOn 16 = .ok (.iload_n 3, 1) := by decide +kernel
theorem dX1_countOn_17 : decode cX1_countOn 17 = .ok (.iaload, 1) := by decide +kernel
theorem dX1_countOn_18 : decode cX1_countOn 18 = .ok (.iload_n 1, 1) := by decide +kernel
theorem dX1_countOn_19 : decode cX1_countOn 19 = .ok (.if_icmp .ne 6, 3) := by decide +kernel
theorem dX1_countOn_22 : decode cX1_countOn 22 = .ok (.iinc 2 1, 3) := by decide +kernel
theorem dX1_countOn_25 : decode cX1_countOn 25 = .ok (.iinc 3 1, 3) := by decide +kernel
theorem dX1_countOn_28 : decode cX1_countOn 28 = .ok (.goto (-24), 3) := by decide +kernel
theorem dX1_countOn_31 : decode cX1_countOn 31 = .ok (.iload_n 2, 1) := by decide +kernel
theorem dX1_countOn_32 : decode cX1_countOn 32 = .ok (.ireturn, 1) := by decide +kernel
theorem dX1_frayAt_0 : decode cX1_frayAt 0 = .ok (.aload_n 0, 1) := by decide +kernel
theorem dX1_frayAt_1 : decode cX1_frayAt 1 = .ok (.iload_n 1, 1) := by decide +kernel
theorem dX1_frayAt_2 : decode cX1_frayAt 2 = .ok (.invokevirtual 52, 3) := by decide +kernel
theorem dX1_frayAt_5 : decode cX1_frayAt 5 = .ok (.ifCond .eq 12, 3) := by decide +kernel
theorem dX1_frayAt_8 : decode cX1_frayAt 8 = .ok (.aload_n 0, 1) := by decide +kernel
theorem dX1_frayAt_9 : decode cX1_frayAt 9 = .ok (.getfield 36, 3) := by decide +kernel
theorem dX1_frayAt_12 : decode cX1_frayAt 12 = .ok (.iload_n 1, 1) := by decide +kernel
theorem dX1_frayAt_13 : decode cX1_frayAt 13 = .ok (.iaload, 1) := by decide +kernel
theorem dX1_frayAt_14 : decode cX1_frayAt 14 = .ok (.goto 11, 3) := by decide +kernel
theorem dX1_frayAt_17 : decode cX1_frayAt 17 = .ok (.iload_n 2, 1) := by decide +kernel
theorem dX1_frayAt_18 : decode cX1_frayAt 18 = .ok (.aload_n 0, 1) := by decide +kernel
theorem dX1_frayAt_19 : decode cX1_frayAt 19 = .ok (.getfield 30, 3) := by decide +kernel
theorem dX1_frayAt_22 : decode cX1_frayAt 22 = .ok (.iload_n 1, 1) := by decide +kernel
theorem dX1_frayAt_23 : decode cX1_frayAt 23 = .ok (.iaload, 1) := by decide +kernel
theorem dX1_frayAt_24 : decode cX1_frayAt 24 = .ok (.isub, 1) := by decide +kernel
theorem dX1_frayAt_25 : decode cX1_frayAt 25 = .ok (.istore_n 3, 1) := by decide +kernel
theorem dX1_frayAt_26 : decode cX1_frayAt 26 = .ok (.iconst 0, 1) := by decide +kernel
theorem dX1_frayAt_27 : decode cX1_frayAt 27 = .ok (.iload_n 3, 1) := by decide +kernel
theorem dX1_frayAt_28 : decode cX1_frayAt 28 = .ok (.aload_n 0, 1) := by decide +kernel
theorem dX1_frayAt_29 : decode cX1_frayAt 29 = .ok (.getfield 33, 3) := by decide +kernel
theorem dX1_frayAt_32 : decode cX1_frayAt 32 = .ok (.iload_n 1, 1) := by decide +kernel
theorem dX1_frayAt_33 : decode cX1_frayAt 33 = .ok (.iaload, 1) := by decide +kernel
theorem dX1_frayAt_34 : decode cX1_frayAt 34 = .ok (.isub, 1) := by decide +kernel
theorem dX1_frayAt_35 : decode cX1_frayAt 35 = .ok (.invokestatic 56, 3) := by decide +kernel
theorem dX1_frayAt_38 : decode cX1_frayAt 38 = .ok (.ireturn, 1) := by decide +kernel
theorem dX1_frayOfAll_0 : decode cX1_frayOfAll 0 = .ok (.iconst 0, 1) := by decide +kernel
theorem dX1_frayOfAll_1 : decode cX1_frayOfAll 1 = .ok (.istore_n 2, 1) := by decide +kernel
theorem dX1_frayOfAll_2 : decode cX1_frayOfAll 2 = .ok (.iconst 0, 1) := by decide +kernel
theorem dX1_frayOfAll_3 : decode cX1_frayOfAll 3 = .ok (.istore_n 3, 1) := by decide +kernel
theorem dX1_frayOfAll_4 : decode cX1_frayOfAll 4 = .ok (.iload_n 3, 1) := by decide +kernel
theorem dX1_frayOfAll_5 : decode cX1_frayOfAll 5 = .ok (.aload_n 0, 1) := by decide +kernel
theorem dX1_frayOfAll_6 : decode cX1_frayOfAll 6 = .ok (.getfield 45, 3) := by decide +kernel
theorem dX1_frayOfAll_9 : decode cX1_frayOfAll 9 = .ok (.if_icmp .ge 18, 3) := by decide +kernel
theorem dX1_frayOfAll_12 : decode cX1_frayOfAll 12 = .ok (.iload_n 2, 1) := by decide +kernel
theorem dX1_frayOfAll_13 : decode cX1_frayOfAll 13 = .ok (.aload_n 0, 1) := by decide +kernel
theorem dX1_frayOfAll_14 : decode cX1_frayOfAll 14 = .ok (.iload_n 3, 1) := by decide +kernel
theorem dX1_frayOfAll_15 : decode cX1_frayOfAll 15 = .ok (.iload_n 1, 1) := by decide +kernel
theorem dX1_frayOfAll_16 : decode cX1_frayOfAll 16 = .ok (.invokevirtual 62, 3) := by decide +kernel
theorem dX1_frayOfAll_19 : decode cX1_frayOfAll 19 = .ok (.iadd, 1) := by decide +kernel
theorem dX1_frayOfAll_20 : decode cX1_frayOfAll 20 = .ok (.istore_n 2, 1) := by decide +kernel
theorem dX1_frayOfAll_21 : decode cX1_frayOfAll 21 = .ok (.iinc 3 1, 3) := by decide +kernel
theorem dX1_frayOfAll_24 : decode cX1_frayOfAll 24 = .ok (.goto (-20), 3) := by decide +kernel
theorem dX1_frayOfAll_27 : decode cX1_frayOfAll 27 = .ok (.iload_n 2, 1) := by decide +kernel
theorem dX1_frayOfAll_28 : decode cX1_frayOfAll 28 = .ok (.ireturn, 1) := by decide +kernel
theorem dX1_frayOfThoseIn_0 : decode cX1_frayOfThoseIn 0 = .ok (.iconst 0, 1) := by decide +kernel
theorem dX1_frayOfThoseIn_1 : decode cX1_frayOfThoseIn 1 = .ok (.istore_n 1, 1) := by decide +kernel
theorem dX1_frayOfThoseIn_2 : decode cX1_frayOfThoseIn 2 = .ok (.iconst 0, 1) := by decide +kernel
theorem dX1_frayOfThoseIn_3 : decode cX1_frayOfThoseIn 3 = .ok (.istore_n 2, 1) := by decide +kernel
theorem dX1_frayOfThoseIn_4 : decode cX1_frayOfThoseIn 4 = .ok (.iload_n 2, 1) := by decide +kernel
theorem dX1_frayOfThoseIn_5 : decode cX1_frayOfThoseIn 5 = .ok (.aload_n 0, 1) := by decide +kernel
theorem dX1_frayOfThoseIn_6 : decode cX1_frayOfThoseIn 6 = .ok (.getfield 45, 3) := by decide +kernel
theorem dX1_frayOfThoseIn_9 : decode cX1_frayOfThoseIn 9 = .ok (.if_icmp .ge 37, 3) := by decide +kernel
theorem dX1_frayOfThoseIn_12 : decode cX1_frayOfThoseIn 12 = .ok (.aload_n 0, 1) := by decide +kernel
theorem dX1_frayOfThoseIn_13 : decode cX1_frayOfThoseIn 13 = .ok (.iload_n 2, 1) := by decide +kernel
theorem dX1_frayOfThoseIn_14 : decode cX1_frayOfThoseIn 14 = .ok (.invokevirtual 52, 3) := by decide +kernel
theorem dX1_frayOfThoseIn_17 : decode cX1_frayOfThoseIn 17 = .ok (.ifCond .eq 23, 3) := by decide +kernel
theorem dX1_frayOfThoseIn_20 : decode cX1_frayOfThoseIn 20 = .ok (.iload_n 1, 1) := by decide +kernel
theorem dX1_frayOfThoseIn_21 : decode cX1_frayOfThoseIn 21 = .ok (.iconst 0, 1) := by decide +kernel
theorem dX1_frayOfThoseIn_22 : decode cX1_frayOfThoseIn 22 = .ok (.aload_n 0, 1) := by decide +kernel
theorem dX1_frayOfThoseIn_23 : decode cX1_frayOfThoseIn 23 = .ok (.getfield 36, 3) := by decide +kernel
theorem dX1_frayOfThoseIn_26 : decode cX1_frayOfThoseIn 26 = .ok (.iload_n 2, 1) := by decide +kernel
theorem dX1_frayOfThoseIn_27 : decode cX1_frayOfThoseIn 27 = .ok (.iaload, 1) := by decide +kernel
theorem dX1_frayOfThoseIn_28 : decode cX1_frayOfThoseIn 28 = .ok (.aload_n 0, 1) := by decide +kernel
theorem dX1_frayOfThoseIn_29 : decode cX1_frayOfThoseIn 29 = .ok (.getfield 33, 3) := by decide +kernel
theorem dX1_frayOfThoseIn_32 : decode cX1_frayOfThoseIn 32 = .ok (.iload_n 2, 1) := by decide +kernel
theorem dX1_frayOfThoseIn_33 : decode cX1_frayOfThoseIn 33 = .ok (.iaload, 1) := by decide +kernel
theorem dX1_frayOfThoseIn_34 : decode cX1_frayOfThoseIn 34 = .ok (.isub, 1) := by decide +kernel
theorem dX1_frayOfThoseIn_35 : decode cX1_frayOfThoseIn 35 = .ok (.invokestatic 56, 3) := by decide +kernel
theorem dX1_frayOfThoseIn_38 : decode cX1_frayOfThoseIn 38 = .ok (.iadd, 1) := by decide +kernel
theorem dX1_frayOfThoseIn_39 : decode cX1_frayOfThoseIn 39 = .ok (.istore_n 1, 1) := by decide +kernel
theorem dX1_frayOfThoseIn_40 : decode cX1_frayOfThoseIn 40 = .ok (.iinc 2 1, 3) := by decide +kernel
theorem dX1_frayOfThoseIn_43 : decode cX1_frayOfThoseIn 43 = .ok (.goto (-39), 3) := by decide +kernel
theorem dX1_frayOfThoseIn_46 : decode cX1_frayOfThoseIn 46 = .ok (.iload_n 1, 1) := by decide +kernel
theorem dX1_frayOfThoseIn_47 : decode cX1_frayOfThoseIn 47 = .ok (.ireturn, 1) := by decide +kernel
theorem dX2_init_0 : decode cX2_init 0 = .ok (.aload_n 0, 1) := by decide +kernel
theorem dX2_init_1 : decode cX2_init 1 = .ok (.invokespecial 3, 3) := by decide +kernel
theorem dX2_init_4 : decode cX2_init 4 = .ok (.aload_n 0, 1) := by decide +kernel
theorem dX2_init_5 : decode cX2_init 5 = .ok (.bipush 100, 2) := by decide +kernel
theorem dX2_init_7 : decode cX2_init 7 = .ok (.newarray .int, 2) := by decide +kernel
theorem dX2_init_9 : decode cX2_init 9 = .ok (.putfield 9, 3) := by decide +kernel
theorem dX2_init_12 : decode cX2_init 12 = .ok (.return_, 1) := by decide +kernel
theorem dX2_copyFrom_0 : decode cX2_copyFrom 0 = .ok (.aload_n 1, 1) := by decide +kernel
theorem dX2_copyFrom_1 : decode cX2_copyFrom 1 = .ok (.getfield 9, 3) := by decide +kernel
theorem dX2_copyFrom_4 : decode cX2_copyFrom 4 = .ok (.iconst 0, 1) := by decide +kernel
theorem dX2_copyFrom_5 : decode cX2_copyFrom 5 = .ok (.aload_n 0, 1) := by decide +kernel
theorem dX2_copyFrom_6 : decode cX2_copyFrom 6 = .ok (.getfield 9, 3) := by decide +kernel
theorem dX2_copyFrom_9 : decode cX2_copyFrom 9 = .ok (.iconst 0, 1) := by decide +kernel
theorem dX2_copyFrom_10 : decode cX2_copyFrom 10 = .ok (.bipush 100, 2) := by decide +kernel
theorem dX2_copyFrom_12 : decode cX2_copyFrom 12 = .ok (.invokestatic 15, 3) := by decide +kernel
theorem dX2_copyFrom_15 : decode cX2_copyFrom 15 = .ok (.return_, 1) := by decide +kernel
theorem dX2_find_0 : decode cX2_find 0 = .ok (.aload_n 0, 1) := by decide +kernel
theorem dX2_find_1 : decode cX2_find 1 = .ok (.invokevirtual 21, 3) := by decide +kernel
theorem dX2_find_4 : decode cX2_find 4 = .ok (.iconst 0, 1) := by decide +kernel
theorem dX2_find_5 : decode cX2_find 5 = .ok (.istore 4, 2) := by decide +kernel
theorem dX2_find_7 : decode cX2_find 7 = .ok (.iload 4, 2) := by decide +kernel
theorem dX2_find_9 : decode cX2_find 9 = .ok (.aload_n 1, 1) := by decide +kernel
theorem dX2_find_10 : decode cX2_find 10 = .ok (.getfield 24, 3) := by decide +kernel
theorem dX2_find_13 : decode cX2_find 13 = .ok (.if_icmp .ge 97, 3) := by decide +kernel
theorem dX2_find_16 : decode cX2_find 16 = .ok (.aload_n 1, 1) := by decide +kernel
theorem dX2_find_17 : decode cX2_find 17 = .ok (.getfield 30, 3) := by decide +kernel
theorem dX2_find_20 : decode cX2_find 20 = .ok (.iload 4, 2) := by decide +kernel
theorem dX2_find_22 : decode cX2_find 22 = .ok (.iaload, 1) := by decide +kernel
theorem dX2_find_23 : decode cX2_find 23 = .ok (.bipush 10, 2) := by decide +kernel
theorem dX2_find_25 : decode cX2_find 25 = .ok (.imul, 1) := by decide +kernel
theorem dX2_find_26 : decode cX2_find 26 = .ok (.aload_n 1, 1) := by decide +kernel
theorem dX2_find_27 : decode cX2_find 27 = .ok (.getfield 33, 3) := by decide +kernel
theorem dX2_find_30 : decode cX2_find 30 = .ok (.iload 4, 2) := by decide +kernel
theorem dX2_find_32 : decode cX2_find 32 = .ok (.iaload, 1) := by decide +kernel
theorem dX2_find_33 : decode cX2_find 33 = .ok (.iadd, 1) := by decide +kernel
theorem dX2_find_34 : decode cX2_find 34 = .ok (.istore 5, 2) := by decide +kernel
theorem dX2_find_36 : decode cX2_find 36 = .ok (.aload_n 1, 1) := by decide +kernel
theorem dX2_find_37 : decode cX2_find 37 = .ok (.iload 4, 2) := by decide +kernel
theorem dX2_find_39 : decode cX2_find 39 = .ok (.invokevirtual 36, 3) := by decide +kernel
theorem dX2_find_42 : decode cX2_find 42 = .ok (.istore 6, 2) := by decide +kernel
theorem dX2_find_44 : decode cX2_find 44 = .ok (.iload 6, 2) := by decide +kernel
theorem dX2_find_46 : decode cX2_find 46 = .ok (.aload_n 0, 1) := by decide +kernel
theorem dX2_find_47 : decode cX2_find 47 = .ok (.getfield 9, 3) := by decide +kernel
theorem dX2_find_50 : decode cX2_find 50 = .ok (.iload 5, 2) := by decide +kernel
theorem dX2_find_52 : decode cX2_find 52 = .ok (.iaload, 1) := by decide +kernel
theorem dX2_find_53 : decode cX2_find 53 = .ok (.if_icmp .ge 51, 3) := by decide +kernel
theorem dX2_find_56 : decode cX2_find 56 = .ok (.iload_n 3, 1) := by decide +kernel
theorem dX2_find_57 : decode cX2_find 57 = .ok (.ifCond .eq 13, 3) := by decide +kernel
theorem dX2_find_60 : decode cX2_find 60 = .ok (.aload_n 1, 1) := by decide +kernel
theorem dX2_find_61 : decode cX2_find 61 = .ok (.getfield 40, 3) := by decide +kernel
theorem dX2_find_64 : decode cX2_find 64 = .ok (.iload 4, 2) := by decide +kernel
theorem dX2_find_66 : decode cX2_find 66 = .ok (.iaload, 1) := by decide +kernel
theorem dX2_find_67 : decode cX2_find 67 = .ok (.ifCond .ne 37, 3) := by decide +kernel
theorem dX2_find_70 : decode cX2_find 70 = .ok (.aload_n 0, 1) := by decide +kernel
theorem dX2_find_71 : decode cX2_find 71 = .ok (.getfield 9, 3) := by decide +kernel
theorem dX2_find_74 : decode cX2_find 74 = .ok (.iload 5, 2) := by decide +kernel
theorem dX2_find_76 : decode cX2_find 76 = .ok (.iload 6, 2) := by decide +kernel
theorem dX2_find_78 : decode cX2_find 78 = .ok (.iastore, 1) := by decide +kernel
theorem dX2_find_79 : decode cX2_find 79 = .ok (.aload_n 0, 1) := by decide +kernel
theorem dX2_find_80 : decode cX2_find 80 = .ok (.getfield 9, 3) := by decide +kernel
theorem dX2_find_83 : decode cX2_find 83 = .ok (.aload_n 1, 1) := by decide +kernel
theorem dX2_find_84 : decode cX2_find 84 = .ok (.getfield 33, 3) := by decide +kernel
theorem dX2_find_87 : decode cX2_find 87 = .ok (.iload 4, 2) := by decide +kernel
theorem dX2_find_89 : decode cX2_find 89 = .ok (.iaload, 1) := by decide +kernel
theorem dX2_find_90 : decode cX2_find 90 = .ok (.bipush 10, 2) := by decide +kernel
theorem dX2_find_92 : decode cX2_find 92 = .ok (.imul, 1) := by decide +kernel
theorem dX2_find_93 : decode cX2_find 93 = .ok (.aload_n 1, 1) := by decide +kernel
theorem dX2_find_94 : decode cX2_find 94 = .ok (.getfield 30, 3) := by decide +kernel
theorem dX2_find_97 : decode cX2_find 97 = .ok (.iload 4, 2) := by decide +kernel
theorem dX2_find_99 : decode cX2_find 99 = .ok (.iaload, 1) := by decide +kernel
theorem dX2_find_100 : decode cX2_find 100 = .ok (.iadd, 1) := by decide +kernel
theorem dX2_find_101 : decode cX2_find 101 = .ok (.iload 6, 2) := by decide +kernel
theorem dX2_find_103 : decode cX2_find 103 = .ok (.iastore, 1) := by decide +kernel
theorem dX2_find_104 : decode cX2_find 104 = .ok (.iinc 4 1, 3) := by decide +kernel
theorem dX2_find_107 : decode cX2_find 107 = .ok (.goto (-100), 3) := by decide +kernel
theorem dX2_find_110 : decode cX2_find 110 = .ok (.iconst 0, 1) := by decide +kernel
theorem dX2_find_111 : decode cX2_find 111 = .ok (.istore 4, 2) := by decide +kernel
theorem dX2_find_113 : decode cX2_find 113 = .ok (.iload 4, 2) := by decide +kernel
theorem dX2_find_115 : decode cX2_find 115 = .ok (.iload_n 2, 1) := by decide +kernel
theorem dX2_find_116 : decode cX2_find 116 = .ok (.if_icmp .ge 16, 3) := by decide +kernel
theorem dX2_find_119 : decode cX2_find 119 = .ok (.aload_n 0, 1) := by decide +kernel
theorem dX2_find_120 : decode cX2_find 120 = .ok (.iload 4, 2) := by decide +kernel
theorem dX2_find_122 : decode cX2_find 122 = .ok (.iload_n 2, 1) := by decide +kernel
theorem dX2_find_123 : decode cX2_find 123 = .ok (.invokevirtual 43, 3) := by decide +kernel
theorem dX2_find_126 : decode cX2_find 126 = .ok (.iinc 4 1, 3) := by decide +kernel
theorem dX2_find_129 : decode cX2_find 129 = .ok (.goto (-16), 3) := by decide +kernel
theorem dX2_find_132 : decode cX2_find 132 = .ok (.return_, 1) := by decide +kernel
theorem dX2_clear_0 : decode cX2_clear 0 = .ok (.iconst 0, 1) := by decide +kernel
theorem dX2_clear_1 : decode cX2_clear 1 = .ok (.istore_n 1, 1) := by decide +kernel
theorem dX2_clear_2 : decode cX2_clear 2 = .ok (.iload_n 1, 1) := by decide +kernel
theorem dX2_clear_3 : decode cX2_clear 3 = .ok (.bipush 10, 2) := by decide +kernel
theorem dX2_clear_5 : decode cX2_clear 5 = .ok (.if_icmp .ge 45, 3) := by decide +kernel
theorem dX2_clear_8 : decode cX2_clear 8 = .ok (.iconst 0, 1) := by decide +kernel
theorem dX2_clear_9 : decode cX2_clear 9 = .ok (.istore_n 2, 1) := by decide +kernel
theorem dX2_clear_10 : decode cX2_clear 10 = .ok (.iload_n 2, 1) := by decide +kernel
theorem dX2_clear_11 : decode cX2_clear 11 = .ok (.bipush 10, 2) := by decide +kernel
theorem dX2_clear_13 : decode cX2_clear 13 = .ok (.if_icmp .ge 31, 3) := by decide +kernel
theorem dX2_clear_16 : decode cX2_clear 16 = .ok (.aload_n 0, 1) := by decide +kernel
theorem dX2_clear_17 : decode cX2_clear 17 = .ok (.getfield 9, 3) := by decide +kernel
theorem dX2_clear_20 : decode cX2_clear 20 = .ok (.iload_n 1, 1) := by decide +kernel
theorem dX2_clear_21 : decode cX2_clear 21 = .ok (.bipush 10, 2) := by decide +kernel
theorem dX2_clear_23 : decode cX2_clear 23 = .ok (.imul, 1) := by decide +kernel
theorem dX2_clear_24 : decode cX2_clear 24 = .ok (.iload_n 2, 1) := by decide +kernel
theorem dX2_clear_25 : decode cX2_clear 25 = .ok (.iadd, 1) := by decide +kernel
theorem dX2_clear_26 : decode cX2_clear 26 = .ok (.iload_n 1, 1) := by decide +kernel
theorem dX2_clear_27 : decode cX2_clear 27 = .ok (.iload_n 2, 1) := by decide +kernel
theorem dX2_clear_28 : decode cX2_clear 28 = .ok (.if_icmp .ne 7, 3) := by decide +kernel
theorem dX2_clear_31 : decode cX2_clear 31 = .ok (.iconst 0, 1) := by decide +kernel
theorem dX2_clear_32 : decode cX2_clear 32 = .ok (.goto 5, 3) := by decide +kernel
theorem dX2_clear_35 : decode cX2_clear 35 = .ok (.ldc 47, 2) := by decide +kernel
theorem dX2_clear_37 : decode cX2_clear 37 = .ok (.iastore, 1) := by decide +kernel
theorem dX2_clear_38 : decode cX2_clear 38 = .ok (.iinc 2 1, 3) := by decide +kernel
theorem dX2_clear_41 : decode cX2_clear 41 = .ok (.goto (-31), 3) := by decide +kernel
theorem dX2_clear_44 : decode cX2_clear 44 = .ok (.iinc 1 1, 3) := by decide +kernel
theorem dX2_clear_47 : decode cX2_clear 47 = .ok (.goto (-45), 3) := by decide +kernel
theorem dX2_clear_50 : decode cX2_clear 50 = .ok (.return_, 1) := by decide +kernel
theorem dX2_goOver_0 : decode cX2_goOver 0 = .ok (.iconst 1, 1) := by decide +kernel
theorem dX2_goOver_1 : decode cX2_goOver 1 = .ok (.istore_n 3, 1) := by decide +kernel
theorem dX2_goOver_2 : decode cX2_goOver 2 = .ok (.iload_n 3, 1) := by decide +kernel
theorem dX2_goOver_3 : decode cX2_goOver 3 = .ok (.iload_n 2, 1) := by decide +kernel
theorem dX2_goOver_4 : decode cX2_goOver 4 = .ok (.if_icmp .ge 106, 3) := by decide +kernel
theorem dX2_goOver_7 : decode cX2_goOver 7 = .ok (.aload_n 0, 1) := by decide +kernel
theorem dX2_goOver_8 : decode cX2_goOver 8 = .ok (.getfield 9, 3) := by decide +kernel
theorem dX2_goOver_11 : decode cX2_goOver 11 = .ok (.iload_n 3, 1) := by decide +kernel
theorem dX2_goOver_12 : decode cX2_goOver 12 = .ok (.bipush 10, 2) := by decide +kernel
theorem dX2_goOver_14 : decode cX2_goOver 14 = .ok (.imul, 1) := by decide +kernel
theorem dX2_goOver_15 : decode cX2_goOver 15 = .ok (.iload_n 1, 1) := by decide +kernel
theorem dX2_goOver_16 : decode cX2_goOver 16 = .ok (.iadd, 1) := by decide +kernel
theorem dX2_goOver_17 : decode cX2_goOver 17 = .ok (.iaload, 1) := by decide +kernel
theorem dX2_goOver_18 : decode cX2_goOver 18 = .ok (.istore 4, 2) := by decide +kernel
theorem dX2_goOver_20 : decode cX2_goOver 20 = .ok (.iconst 0, 1) := by decide +kernel
theorem dX2_goOver_21 : decode cX2_goOver 21 = .ok (.istore 5, 2) := by decide +kernel
theorem dX2_goOver_23 : decode cX2_goOver 23 = .ok (.iload 4, 2) := by decide +kernel
theorem dX2_goOver_25 : decode cX2_goOver 25 = .ok (.ldc 47, 2) := by decide +kernel
theorem dX2_goOver_27 : decode cX2_goOver 27 = .ok (.if_icmp .ge 77, 3) := by decide +kernel
theorem dX2_goOver_30 : decode cX2_goOver 30 = .ok (.iload 5, 2) := by decide +kernel
theorem dX2_goOver_32 : decode cX2_goOver 32 = .ok (.iload_n 3, 1) := by decide +kernel
theorem dX2_goOver_33 : decode cX2_goOver 33 = .ok (.if_icmp .ge 71, 3) := by decide +kernel
theorem dX2_goOver_36 : decode cX2_goOver 36 = .ok (.iload 4, 2) := by decide +kernel
theorem dX2_goOver_38 : decode cX2_goOver 38 = .ok (.aload_n 0, 1) := by decide +kernel
theorem dX2_goOver_39 : decode cX2_goOver 39 = .ok (.getfield 9, 3) := by decide +kernel
theorem dX2_goOver_42 : decode cX2_goOver 42 = .ok (.iload_n 1, 1) := by decide +kernel
theorem dX2_goOver_43 : decode cX2_goOver 43 = .ok (.bipush 10, 2) := by decide +kernel
theorem dX2_goOver_45 : decode cX2_goOver 45 = .ok (.imul, 1) := by decide +kernel
theorem dX2_goOver_46 : decode cX2_goOver 46 = .ok (.iload 5, 2) := by decide +kernel
theorem dX2_goOver_48 : decode cX2_goOver 48 = .ok (.iadd, 1) := by decide +kernel
theorem dX2_goOver_49 : decode cX2_goOver 49 = .ok (.iaload, 1) := by decide +kernel
theorem dX2_goOver_50 : decode cX2_goOver 50 = .ok (.iadd, 1) := by decide +kernel
theorem dX2_goOver_51 : decode cX2_goOver 51 = .ok (.istore 6, 2) := by decide +kernel
theorem dX2_goOver_53 : decode cX2_goOver 53 = .ok (.iload 6, 2) := by decide +kernel
theorem dX2_goOver_55 : decode cX2_goOver 55 = .ok (.aload_n 0, 1) := by decide +kernel
theorem dX2_goOver_56 : decode cX2_goOver 56 = .ok (.getfield 9, 3) := by decide +kernel
theorem dX2_goOver_59 : decode cX2_goOver 59 = .ok (.iload_n 3, 1) := by decide +kernel
theorem dX2_goOver_60 : decode cX2_goOver 60 = .ok (.bipush 10, 2) := by decide +kernel
theorem dX2_goOver_62 : decode cX2_goOver 62 = .ok (.imul, 1) := by decide +kernel
theorem dX2_goOver_63 : decode cX2_goOver 63 = .ok (.iload 5, 2) := by decide +kernel
theorem dX2_goOver_65 : decode cX2_goOver 65 = .ok (.iadd, 1) := by decide +kernel
theorem dX2_goOver_66 : decode cX2_goOver 66 = .ok (.iaload, 1) := by decide +kernel
theorem dX2_goOver_67 : decode cX2_goOver 67 = .ok (.if_icmp .ge 31, 3) := by decide +kernel
theorem dX2_goOver_70 : decode cX2_goOver 70 = .ok (.aload_n 0, 1) := by decide +kernel
theorem dX2_goOver_71 : decode cX2_goOver 71 = .ok (.getfield 9, 3) := by decide +kernel
theorem dX2_goOver_74 : decode cX2_goOver 74 = .ok (.iload_n 3, 1) := by decide +kernel
theorem dX2_goOver_75 : decode cX2_goOver 75 = .ok (.bipush 10, 2) := by decide +kernel
theorem dX2_goOver_77 : decode cX2_goOver 77 = .ok (.imul, 1) := by decide +kernel
theorem dX2_goOver_78 : decode cX2_goOver 78 = .ok (.iload 5, 2) := by decide +kernel
theorem dX2_goOver_80 : decode cX2_goOver 80 = .ok (.iadd, 1) := by decide +kernel
theorem dX2_goOver_81 : decode cX2_goOver 81 = .ok (.iload 6, 2) := by decide +kernel
theorem dX2_goOver_83 : decode cX2_goOver 83 = .ok (.iastore, 1) := by decide +kernel
theorem dX2_goOver_84 : decode cX2_goOver 84 = .ok (.aload_n 0, 1) := by decide +kernel
theorem dX2_goOver_85 : decode cX2_goOver 85 = .ok (.getfield 9, 3) := by decide +kernel
theorem dX2_goOver_88 : decode cX2_goOver 88 = .ok (.iload 5, 2) := by decide +kernel
theorem dX2_goOver_90 : decode cX2_goOver 90 = .ok (.bipush 10, 2) := by decide +kernel
theorem dX2_goOver_92 : decode cX2_goOver 92 = .ok (.imul, 1) := by decide +kernel
theorem dX2_goOver_93 : decode cX2_goOver 93 = .ok (.iload_n 3, 1) := by decide +kernel
theorem dX2_goOver_94 : decode cX2_goOver 94 = .ok (.iadd, 1) := by decide +kernel
theorem dX2_goOver_95 : decode cX2_goOver 95 = .ok (.iload 6, 2) := by decide +kernel
theorem dX2_goOver_97 : decode cX2_goOver 97 = .ok (.iastore, 1) := by decide +kernel
theorem dX2_goOver_98 : decode cX2_goOver 98 = .ok (.iinc 5 1, 3) := by decide +kernel
theorem dX2_goOver_101 : decode cX2_goOver 101 = .ok (.goto (-78), 3) := by decide +kernel
theorem dX2_goOver_104 : decode cX2_goOver 104 = .ok (.iinc 3 1, 3) := by decide +kernel
theorem dX2_goOver_107 : decode cX2_goOver 107 = .ok (.goto (-105), 3) := by decide +kernel
theorem dX2_goOver_110 : decode cX2_goOver 110 = .ok (.return_, 1) := by decide +kernel
theorem dX2_sumOrNone_0 : decode cX2_sumOrNone 0 = .ok (.aload_n 0, 1) := by decide +kernel
theorem dX2_sumOrNone_1 : decode cX2_sumOrNone 1 = .ok (.getfield 9, 3) := by decide +kernel
theorem dX2_sumOrNone_4 : decode cX2_sumOrNone 4 = .ok (.iload_n 1, 1) := by decide +kernel
theorem dX2_sumOrNone_5 : decode cX2_sumOrNone 5 = .ok (.bipush 10, 2) := by decide +kernel
theorem dX2_sumOrNone_7 : decode cX2_sumOrNone 7 = .ok (.imul, 1) := by decide +kernel
theorem dX2_sumOrNone_8 : decode cX2_sumOrNone 8 = .ok (.iload_n 2, 1) := by decide +kernel
theorem dX2_sumOrNone_9 : decode cX2_sumOrNone 9 = .ok (.iadd, 1) := by decide +kernel
theorem dX2_sumOrNone_10 : decode cX2_sumOrNone 10 = .ok (.iaload, 1) := by decide +kernel
theorem dX2_sumOrNone_11 : decode cX2_sumOrNone 11 = .ok (.istore_n 3, 1) := by decide +kernel
theorem dX2_sumOrNone_12 : decode cX2_sumOrNone 12 = .ok (.iload_n 3, 1) := by decide +kernel
theorem dX2_sumOrNone_13 : decode cX2_sumOrNone 13 = .ok (.ldc 47, 2) := by decide +kernel
theorem dX2_sumOrNone_15 : decode cX2_sumOrNone 15 = .ok (.if_icmp .ge 7, 3) := by decide +kernel
theorem dX2_sumOrNone_18 : decode cX2_sumOrNone 18 = .ok (.iload_n 3, 1) := by decide +kernel
theorem dX2_sumOrNone_19 : decode cX2_sumOrNone 19 = .ok (.goto 4, 3) := by decide +kernel
theorem dX2_sumOrNone_22 : decode cX2_sumOrNone 22 = .ok (.iconst (-1), 1) := by decide +kernel
theorem dX2_sumOrNone_23 : decode cX2_sumOrNone 23 = .ok (.ireturn, 1) := by decide +kernel
theorem dX2_countParted_0 : decode cX2_countParted 0 = .ok (.iconst 0, 1) := by decide +kernel
theorem dX2_countParted_1 : decode cX2_countParted 1 = .ok (.istore_n 2, 1) := by decide +kernel
theorem dX2_countParted_2 : decode cX2_countParted 2 = .ok (.iconst 1, 1) := by decide +kernel
theorem dX2_countParted_3 : decode cX2_countParted 3 = .ok (.istore_n 3, 1) := by decide +kernel
theorem dX2_countParted_4 : decode cX2_countParted 4 = .ok (.iload_n 3, 1) := by decide +kernel
theorem dX2_countParted_5 : decode cX2_countParted 5 = .ok (.iload_n 1, 1) := by decide +kernel
theorem dX2_countParted_6 : decode cX2_countParted 6 = .ok (.if_icmp .ge 44, 3) := by decide +kernel
theorem dX2_countParted_9 : decode cX2_countParted 9 = .ok (.iconst 0, 1) := by decide +kernel
theorem dX2_countParted_10 : decode cX2_countParted 10 = .ok (.istore 4, 2) := by decide +kernel
theorem dX2_countParted_12 : decode cX2_countParted 12 = .ok (.iload 4, 2) := by decide +kernel
theorem dX2_countParted_14 : decode cX2_countParted 14 = .ok (.iload_n 3, 1) := by decide +kernel
theorem dX2_countParted_15 : decode cX2_countParted 15 = .ok (.if_icmp .ge 29, 3) := by decide +kernel
theorem dX2_countParted_18 : decode cX2_countParted 18 = .ok (.aload_n 0, 1) := by decide +kernel
theorem dX2_countParted_19 : decode cX2_countParted 19 = .ok (.getfield 9, 3) := by decide +kernel
theorem dX2_countParted_22 : decode cX2_countParted 22 = .ok (.iload_n 3, 1) := by decide +kernel
theorem dX2_countParted_23 : decode cX2_countParted 23 = .ok (.bipush 10, 2) := by decide +kernel
theorem dX2_countParted_25 : decode cX2_countParted 25 = .ok (.imul, 1) := by decide +kernel
theorem dX2_countParted_26 : decode cX2_countParted 26 = .ok (.iload 4, 2) := by decide +kernel
theorem dX2_countParted_28 : decode cX2_countParted 28 = .ok (.iadd, 1) := by decide +kernel
theorem dX2_countParted_29 : decode cX2_countParted 29 = .ok (.iaload, 1) := by decide +kernel
theorem dX2_countParted_30 : decode cX2_countParted 30 = .ok (.ldc 47, 2) := by decide +kernel
theorem dX2_countParted_32 : decode cX2_countParted 32 = .ok (.if_icmp .lt 6, 3) := by decide +kernel
theorem dX2_countParted_35 : decode cX2_countParted 35 = .ok (.iinc 2 1, 3) := by decide +kernel
theorem dX2_countParted_38 : decode cX2_countParted 38 = .ok (.iinc 4 1, 3) := by decide +kernel
theorem dX2_countParted_41 : decode cX2_countParted 41 = .ok (.goto (-29), 3) := by decide +kernel
theorem dX2_countParted_44 : decode cX2_countParted 44 = .ok (.iinc 3 1, 3) := by decide +kernel
theorem dX2_countParted_47 : decode cX2_countParted 47 = .ok (.goto (-43), 3) := by decide +kernel
theorem dX2_countParted_50 : decode cX2_countParted 50 = .ok (.iload_n 2, 1) := by decide +kernel
theorem dX2_countParted_51 : decode cX2_countParted 51 = .ok (.ireturn, 1) := by decide +kernel
theorem dX3_init_0 : decode cX3_init 0 = .ok (.aload_n 0, 1) := by decide +kernel
theorem dX3_init_1 : decode cX3_init 1 = .ok (.invokespecial 3, 3) := by decide +kernel
theorem dX3_init_4 : decode cX3_init 4 = .ok (.aload_n 0, 1) := by decide +kernel
theorem dX3_init_5 : decode cX3_init 5 = .ok (.new 9, 3) := by decide +kernel
theorem dX3_init_8 : decode cX3_init 8 = .ok (.dup, 1) := by decide +kernel
theorem dX3_init_9 : decode cX3_init 9 = .ok (.invokespecial 11, 3) := by decide +kernel
theorem dX3_init_12 : decode cX3_init 12 = .ok (.putfield 12, 3) := by decide +kernel
theorem dX3_init_15 : decode cX3_init 15 = .ok (.aload_n 0, 1) := by decide +kernel
theorem dX3_init_16 : decode cX3_init 16 = .ok (.new 18, 3) := by decide +kernel
theorem dX3_init_19 : decode cX3_init 19 = .ok (.dup, 1) := by decide +kernel
theorem dX3_init_20 : decode cX3_init 20 = .ok (.invokespecial 20, 3) := by decide +kernel
theorem dX3_init_23 : decode cX3_init 23 = .ok (.putfield 21, 3) := by decide +kernel
theorem dX3_init_26 : decode cX3_init 26 = .ok (.aload_n 0, 1) := by decide +kernel
theorem dX3_init_27 : decode cX3_init 27 = .ok (.new 25, 3) := by decide +kernel
theorem dX3_init_30 : decode cX3_init 30 = .ok (.dup, 1) := by decide +kernel
theorem dX3_init_31 : decode cX3_init 31 = .ok (.invokespecial 27, 3) := by decide +kernel
theorem dX3_init_34 : decode cX3_init 34 = .ok (.putfield 28, 3) := by decide +kernel
theorem dX3_init_37 : decode cX3_init 37 = .ok (.return_, 1) := by decide +kernel
theorem dX3_copyFrom_0 : decode cX3_copyFrom 0 = .ok (.aload_n 0, 1) := by decide +kernel
theorem dX3_copyFrom_1 : decode cX3_copyFrom 1 = .ok (.getfield 12, 3) := by decide +kernel
theorem dX3_copyFrom_4 : decode cX3_copyFrom 4 = .ok (.aload_n 1, 1) := by decide +kernel
theorem dX3_copyFrom_5 : decode cX3_copyFrom 5 = .ok (.getfield 12, 3) := by decide +kernel
theorem dX3_copyFrom_8 : decode cX3_copyFrom 8 = .ok (.invokevirtual 32, 3) := by decide +kernel
theorem dX3_copyFrom_11 : decode cX3_copyFrom 11 = .ok (.aload_n 0, 1) := by decide +kernel
theorem dX3_copyFrom_12 : decode cX3_copyFrom 12 = .ok (.getfield 21, 3) := by decide +kernel
theorem dX3_copyFrom_15 : decode cX3_copyFrom 15 = .ok (.aload_n 1, 1) := by decide +kernel
theorem dX3_copyFrom_16 : decode cX3_copyFrom 16 = .ok (.getfield 21, 3) := by decide +kernel
theorem dX3_copyFrom_19 : decode cX3_copyFrom 19 = .ok (.invokevirtual 36, 3) := by decide +kernel
theorem dX3_copyFrom_22 : decode cX3_copyFrom 22 = .ok (.aload_n 0, 1) := by decide +kernel
theorem dX3_copyFrom_23 : decode cX3_copyFrom 23 = .ok (.getfield 28, 3) := by decide +kernel
theorem dX3_copyFrom_26 : decode cX3_copyFrom 26 = .ok (.aload_n 1, 1) := by decide +kernel
theorem dX3_copyFrom_27 : decode cX3_copyFrom 27 = .ok (.getfield 28, 3) := by decide +kernel
theorem dX3_copyFrom_30 : decode cX3_copyFrom 30 = .ok (.invokevirtual 39, 3) := by decide +kernel
theorem dX3_copyFrom_33 : decode cX3_copyFrom 33 = .ok (.aload_n 0, 1) := by decide +kernel
theorem dX3_copyFrom_34 : decode cX3_copyFrom 34 = .ok (.aload_n 1, 1) := by decide +kernel
theorem dX3_copyFrom_35 : decode cX3_copyFrom 35 = .ok (.getfield 42, 3) := by decide +kernel
theorem dX3_copyFrom_38 : decode cX3_copyFrom 38 = .ok (.putfield 42, 3) := by decide +kernel
theorem dX3_copyFrom_41 : decode cX3_copyFrom 41 = .ok (.aload_n 0, 1) := by decide +kernel
theorem dX3_copyFrom_42 : decode cX3_copyFrom 42 = .ok (.aload_n 1, 1) := by decide +kernel
theorem dX3_copyFrom_43 : decode cX3_copyFrom 43 = .ok (.getfield 46, 3) := by decide +kernel
theorem dX3_copyFrom_46 : decode cX3_copyFrom 46 = .ok (.putfield 46, 3) := by decide +kernel
theorem dX3_copyFrom_49 : decode cX3_copyFrom 49 = .ok (.aload_n 0, 1) := by decide +kernel
theorem dX3_copyFrom_50 : decode cX3_copyFrom 50 = .ok (.aload_n 1, 1) := by decide +kernel
theorem dX3_copyFrom_51 : decode cX3_copyFrom 51 = .ok (.getfield 49, 3) := by decide +kernel
theorem dX3_copyFrom_54 : decode cX3_copyFrom 54 = .ok (.putfield 49, 3) := by decide +kernel
theorem dX3_copyFrom_57 : decode cX3_copyFrom 57 = .ok (.return_, 1) := by decide +kernel
theorem dX3_putCrossing_0 : decode cX3_putCrossing 0 = .ok (.aload_n 0, 1) := by decide +kernel
theorem dX3_putCrossing_1 : decode cX3_putCrossing 1 = .ok (.iconst 1, 1) := by decide +kernel
theorem dX3_putCrossing_2 : decode cX3_putCrossing 2 = .ok (.putfield 49, 3) := by decide +kernel
theorem dX3_putCrossing_5 : decode cX3_putCrossing 5 = .ok (.aload_n 0, 1) := by decide +kernel
theorem dX3_putCrossing_6 : decode cX3_putCrossing 6 = .ok (.dup, 1) := by decide +kernel
theorem dX3_putCrossing_7 : decode cX3_putCrossing 7 = .ok (.getfield 42, 3) := by decide +kernel
theorem dX3_putCrossing_10 : decode cX3_putCrossing 10 = .ok (.iconst 1, 1) := by decide +kernel
theorem dX3_putCrossing_11 : decode cX3_putCrossing 11 = .ok (.iadd, 1) := by decide +kernel
theorem dX3_putCrossing_12 : decode cX3_putCrossing 12 = .ok (.putfield 42, 3) := by decide +kernel
theorem dX3_putCrossing_15 : decode cX3_putCrossing 15 = .ok (.aload_n 0, 1) := by decide +kernel
theorem dX3_putCrossing_16 : decode cX3_putCrossing 16 = .ok (.getfield 42, 3) := by decide +kernel
theorem dX3_putCrossing_19 : decode cX3_putCrossing 19 = .ok (.iconst 1, 1) := by decide +kernel
theorem dX3_putCrossing_20 : decode cX3_putCrossing 20 = .ok (.isub, 1) := by decide +kernel
theorem dX3_putCrossing_21 : decode cX3_putCrossing 21 = .ok (.ireturn, 1) := by decide +kernel
theorem dX3_putRoad_0 : decode cX3_putRoad 0 = .ok (.aload_n 0, 1) := by decide +kernel
theorem dX3_putRoad_1 : decode cX3_putRoad 1 = .ok (.iconst 1, 1) := by decide +kernel
theorem dX3_putRoad_2 : decode cX3_putRoad 2 = .ok (.putfield 49, 3) := by decide +kernel
theorem dX3_putRoad_5 : decode cX3_putRoad 5 = .ok (.aload_n 0, 1) := by decide +kernel
theorem dX3_putRoad_6 : decode cX3_putRoad 6 = .ok (.getfield 12, 3) := by decide +kernel
theorem dX3_putRoad_9 : decode cX3_putRoad 9 = .ok (.iload_n 1, 1) := by decide +kernel
theorem dX3_putRoad_10 : decode cX3_putRoad 10 = .ok (.iload_n 2, 1) := by decide +kernel
theorem dX3_putRoad_11 : decode cX3_putRoad 11 = .ok (.iload_n 3, 1) := by decide +kernel
theorem dX3_putRoad_12 : decode cX3_putRoad 12 = .ok (.iload 4, 2) := by decide +kernel
theorem dX3_putRoad_14 : decode cX3_putRoad 14 = .ok (.invokevirtual 53, 3) := by decide +kernel
theorem dX3_putRoad_17 : decode cX3_putRoad 17 = .ok (.ireturn, 1) := by decide +kernel
theorem dX3_closeRoad_0 : decode cX3_closeRoad 0 = .ok (.aload_n 0, 1) := by decide +kernel
theorem dX3_closeRoad_1 : decode cX3_closeRoad 1 = .ok (.iconst 1, 1) := by decide +kernel
theorem dX3_closeRoad_2 : decode cX3_closeRoad 2 = .ok (.putfield 49, 3) := by decide +kernel
theorem dX3_closeRoad_5 : decode cX3_closeRoad 5 = .ok (.aload_n 0, 1) := by decide +kernel
theorem dX3_closeRoad_6 : decode cX3_closeRoad 6 = .ok (.getfield 12, 3) := by decide +kernel
theorem dX3_closeRoad_9 : decode cX3_closeRoad 9 = .ok (.getfield 57, 3) := by decide +kernel
theorem dX3_closeRoad_12 : decode cX3_closeRoad 12 = .ok (.iload_n 1, 1) := by decide +kernel
theorem dX3_closeRoad_13 : decode cX3_closeRoad 13 = .ok (.iload_n 2, 1) := by decide +kernel
theorem dX3_closeRoad_14 : decode cX3_closeRoad 14 = .ok (.iastore, 1) := by decide +kernel
theorem dX3_closeRoad_15 : decode cX3_closeRoad 15 = .ok (.return_, 1) := by decide +kernel
theorem dX3_untie_0 : decode cX3_untie 0 = .ok (.aload_n 0, 1) := by decide +kernel
theorem dX3_untie_1 : decode cX3_untie 1 = .ok (.iconst 1, 1) := by decide +kernel
theorem dX3_untie_2 : decode cX3_untie 2 = .ok (.putfield 49, 3) := by decide +kernel
theorem dX3_untie_5 : decode cX3_untie 5 = .ok (.aload_n 0, 1) := by decide +kernel
theorem dX3_untie_6 : decode cX3_untie 6 = .ok (.getfield 12, 3) := by decide +kernel
theorem dX3_untie_9 : decode cX3_untie 9 = .ok (.getfield 61, 3) := by decide +kernel
theorem dX3_untie_12 : decode cX3_untie 12 = .ok (.iload_n 1, 1) := by decide +kernel
theorem dX3_untie_13 : decode cX3_untie 13 = .ok (.iaload, 1) := by decide +kernel
theorem dX3_untie_14 : decode cX3_untie 14 = .ok (.istore_n 2, 1) := by decide +kernel
theorem dX3_untie_15 : decode cX3_untie 15 = .ok (.aload_n 0, 1) := by decide +kernel
theorem dX3_untie_16 : decode cX3_untie 16 = .ok (.getfield 12, 3) := by decide +kernel
theorem dX3_untie_19 : decode cX3_untie 19 = .ok (.getfield 61, 3) := by decide +kernel
theorem dX3_untie_22 : decode cX3_untie 22 = .ok (.iload_n 1, 1) := by decide +kernel
theorem dX3_untie_23 : decode cX3_untie 23 = .ok (.iconst 0, 1) := by decide +kernel
theorem dX3_untie_24 : decode cX3_untie 24 = .ok (.iastore, 1) := by decide +kernel
theorem dX3_untie_25 : decode cX3_untie 25 = .ok (.iload_n 2, 1) := by decide +kernel
theorem dX3_untie_26 : decode cX3_untie 26 = .ok (.ireturn, 1) := by decide +kernel
theorem dX3_findOpenWays_0 : decode cX3_findOpenWays 0 = .ok (.aload_n 0, 1) := by decide +kernel
theorem dX3_findOpenWays_1 : decode cX3_findOpenWays 1 = .ok (.getfield 49, 3) := by decide +kernel
theorem dX3_findOpenWays_4 : decode cX3_findOpenWays 4 = .ok (.ifCond .eq 24, 3) := by decide +kernel
theorem dX3_findOpenWays_7 : decode cX3_findOpenWays 7 = .ok (.aload_n 0, 1) := by decide +kernel
theorem dX3_findOpenWays_8 : decode cX3_findOpenWays 8 = .ok (.getfield 28, 3) := by decide +kernel
theorem dX3_findOpenWays_11 : decode cX3_findOpenWays 11 = .ok (.aload_n 0, 1) := by decide +kernel
theorem dX3_findOpenWays_12 : decode cX3_findOpenWays 12 = .ok (.getfield 12, 3) := by decide +kernel
theorem dX3_findOpenWays_15 : decode cX3_findOpenWays 15 = .ok (.aload_n 0, 1) := by decide +kernel
theorem dX3_findOpenWays_16 : decode cX3_findOpenWays 16 = .ok (.getfield 42, 3) := by decide +kernel
theorem dX3_findOpenWays_19 : decode cX3_findOpenWays 19 = .ok (.iconst 1, 1) := by decide +kernel
theorem dX3_findOpenWays_20 : decode cX3_findOpenWays 20 = .ok (.invokevirtual 64, 3) := by decide +kernel
theorem dX3_findOpenWays_23 : decode cX3_findOpenWays 23 = .ok (.aload_n 0, 1) := by decide +kernel
theorem dX3_findOpenWays_24 : decode cX3_findOpenWays 24 = .ok (.iconst 0, 1) := by decide +kernel
theorem dX3_findOpenWays_25 : decode cX3_findOpenWays 25 = .ok (.putfield 49, 3) := by decide +kernel
theorem dX3_findOpenWays_28 : decode cX3_findOpenWays 28 = .ok (.return_, 1) := by decide +kernel
theorem dX3_roadToward_0 : decode cX3_roadToward 0 = .ok (.iconst (-1), 1) := by decide +kernel
theorem dX3_roadToward_1 : decode cX3_roadToward 1 = .ok (.istore_n 3, 1) := by decide +kernel
theorem dX3_roadToward_2 : decode cX3_roadToward 2 = .ok (.ldc 68, 2) := by decide +kernel
theorem dX3_roadToward_4 : decode cX3_roadToward 4 = .ok (.istore 4, 2) := by decide +kernel
theorem dX3_roadToward_6 : decode cX3_roadToward 6 = .ok (.iconst 0, 1) := by decide +kernel
theorem dX3_roadToward_7 : decode cX3_roadToward 7 = .ok (.istore 5, 2) := by decide +kernel
theorem dX3_roadToward_9 : decode cX3_roadToward 9 = .ok (.iload 5, 2) := by decide +kernel
theorem dX3_roadToward_11 : decode cX3_roadToward 11 = .ok (.aload_n 0, 1) := by decide +kernel
theorem dX3_roadToward_12 : decode cX3_roadToward 12 = .ok (.getfield 12, 3) := by decide +kernel
theorem dX3_roadToward_15 : decode cX3_roadToward 15 = .ok (.getfield 69, 3) := by decide +kernel
theorem dX3_roadToward_18 : decode cX3_roadToward 18 = .ok (.if_icmp .ge 84, 3) := by decide +kernel
theorem dX3_roadToward_21 : decode cX3_roadToward 21 = .ok (.aload_n 0, 1) := by decide +kernel
theorem dX3_roadToward_22 : decode cX3_roadToward 22 = .ok (.getfield 12, 3) := by decide +kernel
theorem dX3_roadToward_25 : decode cX3_roadToward 25 = .ok (.getfield 57, 3) := by decide +kernel
theorem dX3_roadToward_28 : decode cX3_roadToward 28 = .ok (.iload 5, 2) := by decide +kernel
theorem dX3_roadToward_30 : decode cX3_roadToward 30 = .ok (.iaload, 1) := by decide +kernel
theorem dX3_roadToward_31 : decode cX3_roadToward 31 = .ok (.ifCond .le 7, 3) := by decide +kernel
theorem dX3_roadToward_34 : decode cX3_roadToward 34 = .ok (.iconst (-1), 1) := by decide +kernel
theorem dX3_roadToward_35 : decode cX3_roadToward 35 = .ok (.goto 13, 3) := by decide +kernel
theorem dX3_roadToward_38 : decode cX3_roadToward 38 = .ok (.aload_n 0, 1) := by decide +kernel
theorem dX3_roadToward_39 : decode cX3_roadToward 39 = .ok (.getfield 12, 3) := by decide +kernel
theorem dX3_roadToward_42 : decode cX3_roadToward 42 = .ok (.iload 5, 2) := by decide +kernel
theorem dX3_roadToward_44 : decode cX3_roadToward 44 = .ok (.iload_n 1, 1) := by decide +kernel
theorem dX3_roadToward_45 : decode cX3_roadToward 45 = .ok (.invokevirtual 72, 3) := by decide +kernel
theorem dX3_roadToward_48 : decode cX3_roadToward 48 = .ok (.istore 6, 2) := by decide +kernel
theorem dX3_roadToward_50 : decode cX3_roadToward 50 = .ok (.iload 6, 2) := by decide +kernel
theorem dX3_roadToward_52 : decode cX3_roadToward 52 = .ok (.ifCond .lt 44, 3) := by decide +kernel
theorem dX3_roadToward_55 : decode cX3_roadToward 55 = .ok (.aload_n 0, 1) := by decide +kernel
theorem dX3_roadToward_56 : decode cX3_roadToward 56 = .ok (.getfield 12, 3) := by decide +kernel
theorem dX3_roadToward_59 : decode cX3_roadToward 59 = .ok (.iload 5, 2) := by decide +kernel
theorem dX3_roadToward_61 : decode cX3_roadToward 61 = .ok (.invokevirtual 76, 3) := by decide +kernel
theorem dX3_roadToward_64 : decode cX3_roadToward 64 = .ok (.aload_n 0, 1) := by decide +kernel
theorem dX3_roadToward_65 : decode cX3_roadToward 65 = .ok (.getfield 28, 3) := by decide +kernel
theorem dX3_roadToward_68 : decode cX3_roadToward 68 = .ok (.getfield 80, 3) := by decide +kernel
theorem dX3_roadToward_71 : decode cX3_roadToward 71 = .ok (.iload 6, 2) := by decide +kernel
theorem dX3_roadToward_73 : decode cX3_roadToward 73 = .ok (.bipush 10, 2) := by decide +kernel
theorem dX3_roadToward_75 : decode cX3_roadToward 75 = .ok (.imul, 1) := by decide +kernel
theorem dX3_roadToward_76 : decode cX3_roadToward 76 = .ok (.iload_n 2, 1) := by decide +kernel
theorem dX3_roadToward_77 : decode cX3_roadToward 77 = .ok (.iadd, 1) := by decide +kernel
theorem dX3_roadToward_78 : decode cX3_roadToward 78 = .ok (.iaload, 1) := by decide +kernel
theorem dX3_roadToward_79 : decode cX3_roadToward 79 = .ok (.iadd, 1) := by decide +kernel
theorem dX3_roadToward_80 : decode cX3_roadToward 80 = .ok (.istore 7, 2) := by decide +kernel
theorem dX3_roadToward_82 : decode cX3_roadToward 82 = .ok (.iload 7, 2) := by decide +kernel
theorem dX3_roadToward_84 : decode cX3_roadToward 84 = .ok (.iload 4, 2) := by decide +kernel
theorem dX3_roadToward_86 : decode cX3_roadToward 86 = .ok (.if_icmp .ge 10, 3) := by decide +kernel
theorem dX3_roadToward_89 : decode cX3_roadToward 89 = .ok (.iload 7, 2) := by decide +kernel
theorem dX3_roadToward_91 : decode cX3_roadToward 91 = .ok (.istore 4, 2) := by decide +kernel
theorem dX3_roadToward_93 : decode cX3_roadToward 93 = .ok (.iload 5, 2) := by decide +kernel
theorem dX3_roadToward_95 : decode cX3_roadToward 95 = .ok (.istore_n 3, 1) := by decide +kernel
theorem dX3_roadToward_96 : decode cX3_roadToward 96 = .ok (.iinc 5 1, 3) := by decide +kernel
theorem dX3_roadToward_99 : decode cX3_roadToward 99 = .ok (.goto (-90), 3) := by decide +kernel
theorem dX3_roadToward_102 : decode cX3_roadToward 102 = .ok (.iload_n 3, 1) := by decide +kernel
theorem dX3_roadToward_103 : decode cX3_roadToward 103 = .ok (.ireturn, 1) := by decide +kernel
theorem dX3_letHourGoBy_0 : decode cX3_letHourGoBy 0 = .ok (.aload_n 0, 1) := by decide +kernel
theorem dX3_letHourGoBy_1 : decode cX3_letHourGoBy 1 = .ok (.invokevirtual 83, 3) := by decide +kernel
theorem dX3_letHourGoBy_4 : decode cX3_letHourGoBy 4 = .ok (.aload_n 0, 1) := by decide +kernel
theorem dX3_letHourGoBy_5 : decode cX3_letHourGoBy 5 = .ok (.invokevirtual 86, 3) := by decide +kernel
theorem dX3_letHourGoBy_8 : decode cX3_letHourGoBy 8 = .ok (.iconst 0, 1) := by decide +kernel
theorem dX3_letHourGoBy_9 : decode cX3_letHourGoBy 9 = .ok (.istore_n 1, 1) := by decide +kernel
theorem dX3_letHourGoBy_10 : decode cX3_letHourGoBy 10 = .ok (.iload_n 1, 1) := by decide +kernel
theorem dX3_letHourGoBy_11 : decode cX3_letHourGoBy 11 = .ok (.aload_n 0, 1) := by decide +kernel
theorem dX3_letHourGoBy_12 : decode cX3_letHourGoBy 12 = .ok (.getfield 21, 3) := by decide +kernel
theorem dX3_letHourGoBy_15 : decode cX3_letHourGoBy 15 = .ok (.getfield 89, 3) := by decide +kernel
theorem dX3_letHourGoBy_18 : decode cX3_letHourGoBy 18 = .ok (.if_icmp .ge 37, 3) := by decide +kernel
theorem dX3_letHourGoBy_21 : decode cX3_letHourGoBy 21 = .ok (.aload_n 0, 1) := by decide +kernel
theorem dX3_letHourGoBy_22 : decode cX3_letHourGoBy 22 = .ok (.getfield 21, 3) := by decide +kernel
theorem dX3_letHourGoBy_25 : decode cX3_letHourGoBy 25 = .ok (.iload_n 1, 1) := by decide +kernel
theorem dX3_letHourGoBy_26 : decode cX3_letHourGoBy 26 = .ok (.invokevirtual 90, 3) := by decide +kernel
theorem dX3_letHourGoBy_29 : decode cX3_letHourGoBy 29 = .ok (.ifCond .ne 20, 3) := by decide +kernel
theorem dX3_letHourGoBy_32 : decode cX3_letHourGoBy 32 = .ok (.aload_n 0, 1) := by decide +kernel
theorem dX3_letHourGoBy_33 : decode cX3_letHourGoBy 33 = .ok (.iload_n 1, 1) := by decide +kernel
theorem dX3_letHourGoBy_34 : decode cX3_letHourGoBy 34 = .ok (.invokevirtual 94, 3) := by decide +kernel
theorem dX3_letHourGoBy_37 : decode cX3_letHourGoBy 37 = .ok (.aload_n 0, 1) := by decide +kernel
theorem dX3_letHourGoBy_38 : decode cX3_letHourGoBy 38 = .ok (.getfield 21, 3) := by decide +kernel
theorem dX3_letHourGoBy_41 : decode cX3_letHourGoBy 41 = .ok (.iload_n 1, 1) := by decide +kernel
theorem dX3_letHourGoBy_42 : decode cX3_letHourGoBy 42 = .ok (.aload_n 0, 1) := by decide +kernel
theorem dX3_letHourGoBy_43 : decode cX3_letHourGoBy 43 = .ok (.getfield 46, 3) := by decide +kernel
theorem dX3_letHourGoBy_46 : decode cX3_letHourGoBy 46 = .ok (.invokevirtual 98, 3) := by decide +kernel
theorem dX3_letHourGoBy_49 : decode cX3_letHourGoBy 49 = .ok (.iinc 1 1, 3) := by decide +kernel
theorem dX3_letHourGoBy_52 : decode cX3_letHourGoBy 52 = .ok (.goto (-42), 3) := by decide +kernel
theorem dX3_letHourGoBy_55 : decode cX3_letHourGoBy 55 = .ok (.aload_n 0, 1) := by decide +kernel
theorem dX3_letHourGoBy_56 : decode cX3_letHourGoBy 56 = .ok (.invokevirtual 102, 3) := by decide +kernel
theorem dX3_letHourGoBy_59 : decode cX3_letHourGoBy 59 = .ok (.aload_n 0, 1) := by decide +kernel
theorem dX3_letHourGoBy_60 : decode cX3_letHourGoBy 60 = .ok (.dup, 1) := by decide +kernel
theorem dX3_letHourGoBy_61 : decode cX3_letHourGoBy 61 = .ok (.getfield 46, 3) := by decide +kernel
theorem dX3_letHourGoBy_64 : decode cX3_letHourGoBy 64 = .ok (.iconst 1, 1) := by decide +kernel
theorem dX3_letHourGoBy_65 : decode cX3_letHourGoBy 65 = .ok (.iadd, 1) := by decide +kernel
theorem dX3_letHourGoBy_66 : decode cX3_letHourGoBy 66 = .ok (.putfield 46, 3) := by decide +kernel
theorem dX3_letHourGoBy_69 : decode cX3_letHourGoBy 69 = .ok (.return_, 1) := by decide +kernel
theorem dX3_goOnMending_0 : decode cX3_goOnMending 0 = .ok (.iconst 0, 1) := by decide +kernel
theorem dX3_goOnMending_1 : decode cX3_goOnMending 1 = .ok (.istore_n 1, 1) := by decide +kernel
theorem dX3_goOnMending_2 : decode cX3_goOnMending 2 = .ok (.iload_n 1, 1) := by decide +kernel
theorem dX3_goOnMending_3 : decode cX3_goOnMending 3 = .ok (.aload_n 0, 1) := by decide +kernel
theorem dX3_goOnMending_4 : decode cX3_goOnMending 4 = .ok (.getfield 12, 3) := by decide +kernel
theorem dX3_goOnMending_7 : decode cX3_goOnMending 7 = .ok (.getfield 69, 3) := by decide +kernel
theorem dX3_goOnMending_10 : decode cX3_goOnMending 10 = .ok (.if_icmp .ge 59, 3) := by decide +kernel
theorem dX3_goOnMending_13 : decode cX3_goOnMending 13 = .ok (.aload_n 0, 1) := by decide +kernel
theorem dX3_goOnMending_14 : decode cX3_goOnMending 14 = .ok (.getfield 12, 3) := by decide +kernel
theorem dX3_goOnMending_17 : decode cX3_goOnMending 17 = .ok (.getfield 57, 3) := by decide +kernel
theorem dX3_goOnMending_20 : decode cX3_goOnMending 20 = .ok (.iload_n 1, 1) := by decide +kernel
theorem dX3_goOnMending_21 : decode cX3_goOnMending 21 = .ok (.iaload, 1) := by decide +kernel
theorem dX3_goOnMending_22 : decode cX3_goOnMending 22 = .ok (.ifCond .le 41, 3) := by decide +kernel
theorem dX3_goOnMending_25 : decode cX3_goOnMending 25 = .ok (.aload_n 0, 1) := by decide +kernel
theorem dX3_goOnMending_26 : decode cX3_goOnMending 26 = .ok (.getfield 12, 3) := by decide +kernel
theorem dX3_goOnMending_29 : decode cX3_goOnMending 29 = .ok (.getfield 57, 3) := by decide +kernel
theorem dX3_goOnMending_32 : decode cX3_goOnMending 32 = .ok (.iload_n 1, 1) := by decide +kernel
theorem dX3_goOnMending_33 : decode cX3_goOnMending 33 = .ok (.dup2, 1) := by decide +kernel
theorem dX3_goOnMending_34 : decode cX3_goOnMending 34 = .ok (.iaload, 1) := by decide +kernel
theorem dX3_goOnMending_35 : decode cX3_goOnMending 35 = .ok (.iconst 1, 1) := by decide +kernel
theorem dX3_goOnMending_36 : decode cX3_goOnMending 36 = .ok (.isub, 1) := by decide +kernel
theorem dX3_goOnMending_37 : decode cX3_goOnMending 37 = .ok (.iastore, 1) := by decide +kernel
theorem dX3_goOnMending_38 : decode cX3_goOnMending 38 = .ok (.aload_n 0, 1) := by decide +kernel
theorem dX3_goOnMending_39 : decode cX3_goOnMending 39 = .ok (.getfield 12, 3) := by decide +kernel
theorem dX3_goOnMending_42 : decode cX3_goOnMending 42 = .ok (.getfield 57, 3) := by decide +kernel
theorem dX3_goOnMending_45 : decode cX3_goOnMending 45 = .ok (.iload_n 1, 1) := by decide +kernel
theorem dX3_goOnMending_46 : decode cX3_goOnMending 46 = .ok (.iaload, 1) := by decide +kernel
theorem dX3_goOnMending_47 : decode cX3_goOnMending 47 = .ok (.ifCond .ne 16, 3) := by decide +kernel
theorem dX3_goOnMending_50 : decode cX3_goOnMending 50 = .ok (.aload_n 0, 1) := by decide +kernel
theorem dX3_goOnMending_51 : decode cX3_goOnMending 51 = .ok (.getfield 12, 3) := by decide +kernel
theorem dX3_goOnMending_54 : decode cX3_goOnMending 54 = .ok (.iload_n 1, 1) := by decide +kernel
theorem dX3_goOnMending_55 : decode cX3_goOnMending 55 = .ok (.invokevirtual 105, 3) := by decide +kernel
theorem dX3_goOnMending_58 : decode cX3_goOnMending 58 = .ok (.aload_n 0, 1) := by decide +kernel
theorem dX3_goOnMending_59 : decode cX3_goOnMending 59 = .ok (.iconst 1, 1) := by decide +kernel
theorem dX3_goOnMending_60 : decode cX3_goOnMending 60 = .ok (.putfield 49, 3) := by decide +kernel
theorem dX3_goOnMending_63 : decode cX3_goOnMending 63 = .ok (.iinc 1 1, 3) := by decide +kernel
theorem dX3_goOnMending_66 : decode cX3_goOnMending 66 = .ok (.goto (-64), 3) := by decide +kernel
theorem dX3_goOnMending_69 : decode cX3_goOnMending 69 = .ok (.return_, 1) := by decide +kernel
theorem dX3_setOut_0 : decode cX3_setOut 0 = .ok (.aload_n 0, 1) := by decide +kernel
theorem dX3_setOut_1 : decode cX3_setOut 1 = .ok (.getfield 21, 3) := by decide +kernel
theorem dX3_setOut_4 : decode cX3_setOut 4 = .ok (.getfield 108, 3) := by decide +kernel
theorem dX3_setOut_7 : decode cX3_setOut 7 = .ok (.iload_n 1, 1) := by decide +kernel
theorem dX3_setOut_8 : decode cX3_setOut 8 = .ok (.iaload, 1) := by decide +kernel
theorem dX3_setOut_9 : decode cX3_setOut 9 = .ok (.istore_n 2, 1) := by decide +kernel
theorem dX3_setOut_10 : decode cX3_setOut 10 = .ok (.iload_n 2, 1) := by decide +kernel
theorem dX3_setOut_11 : decode cX3_setOut 11 = .ok (.ifCond .ge 4, 3) := by decide +kernel
theorem dX3_setOut_14 : decode cX3_setOut 14 = .ok (.return_, 1) := by decide +kernel
theorem dX3_setOut_15 : decode cX3_setOut 15 = .ok (.aload_n 0, 1) := by decide +kernel
theorem dX3_setOut_16 : decode cX3_setOut 16 = .ok (.iload_n 2, 1) := by decide +kernel
theorem dX3_setOut_17 : decode cX3_setOut 17 = .ok (.aload_n 0, 1) := by decide +kernel
theorem dX3_setOut_18 : decode cX3_setOut 18 = .ok (.getfield 21, 3) := by decide +kernel
theorem dX3_setOut_21 : decode cX3_setOut 21 = .ok (.getfield 111, 3) := by decide +kernel
theorem dX3_setOut_24 : decode cX3_setOut 24 = .ok (.iload_n 1, 1) := by decide +kernel
theorem dX3_setOut_25 : decode cX3_setOut 25 = .ok (.iaload, 1) := by decide +kernel
theorem dX3_setOut_26 : decode cX3_setOut 26 = .ok (.invokevirtual 114, 3) := by decide +kernel
theorem dX3_setOut_29 : decode cX3_setOut 29 = .ok (.istore_n 3, 1) := by decide +kernel
theorem dX3_setOut_30 : decode cX3_setOut 30 = .ok (.iload_n 3, 1) := by decide +kernel
theorem dX3_setOut_31 : decode cX3_setOut 31 = .ok (.ifCond .lt 72, 3) := by decide +kernel
theorem dX3_setOut_34 : decode cX3_setOut 34 = .ok (.aload_n 0, 1) := by decide +kernel
theorem dX3_setOut_35 : decode cX3_setOut 35 = .ok (.getfield 21, 3) := by decide +kernel
theorem dX3_setOut_38 : decode cX3_setOut 38 = .ok (.iload_n 1, 1) := by decide +kernel
theorem dX3_setOut_39 : decode cX3_setOut 39 = .ok (.iload_n 3, 1) := by decide +kernel
theorem dX3_setOut_40 : decode cX3_setOut 40 = .ok (.aload_n 0, 1) := by decide +kernel
theorem dX3_setOut_41 : decode cX3_setOut 41 = .ok (.getfield 12, 3) := by decide +kernel
theorem dX3_setOut_44 : decode cX3_setOut 44 = .ok (.iload_n 3, 1) := by decide +kernel
theorem dX3_setOut_45 : decode cX3_setOut 45 = .ok (.iload_n 2, 1) := by decide +kernel
theorem dX3_setOut_46 : decode cX3_setOut 46 = .ok (.invokevirtual 72, 3) := by decide +kernel
theorem dX3_setOut_49 : decode cX3_setOut 49 = .ok (.aload_n 0, 1) := by decide +kernel
theorem dX3_setOut_50 : decode cX3_setOut 50 = .ok (.getfield 12, 3) := by decide +kernel
theorem dX3_setOut_53 : decode cX3_setOut 53 = .ok (.iload_n 3, 1) := by decide +kernel
theorem dX3_setOut_54 : decode cX3_setOut 54 = .ok (.invokevirtual 76, 3) := by decide +kernel
theorem dX3_setOut_57 : decode cX3_setOut 57 = .ok (.invokevirtual 117, 3) := by decide +kernel
theorem dX3_setOut_60 : decode cX3_setOut 60 = .ok (.aload_n 0, 1) := by decide +kernel
theorem dX3_setOut_61 : decode cX3_setOut 61 = .ok (.getfield 21, 3) := by decide +kernel
theorem dX3_setOut_64 : decode cX3_setOut 64 = .ok (.getfield 121, 3) := by decide +kernel
theorem dX3_setOut_67 : decode cX3_setOut 67 = .ok (.iload_n 1, 1) := by decide +kernel
theorem dX3_setOut_68 : decode cX3_setOut 68 = .ok (.aload_n 0, 1) := by decide +kernel
theorem dX3_setOut_69 : decode cX3_setOut 69 = .ok (.getfield 21, 3) := by decide +kernel
theorem dX3_setOut_72 : decode cX3_setOut 72 = .ok (.getfield 121, 3) := by decide +kernel
theorem dX3_setOut_75 : decode cX3_setOut 75 = .ok (.iload_n 1, 1) := by decide +kernel
theorem dX3_setOut_76 : decode cX3_setOut 76 = .ok (.iaload, 1) := by decide +kernel
theorem dX3_setOut_77 : decode cX3_setOut 77 = .ok (.aload_n 0, 1) := by decide +kernel
theorem dX3_setOut_78 : decode cX3_setOut 78 = .ok (.getfield 12, 3) := by decide +kernel
theorem dX3_setOut_81 : decode cX3_setOut 81 = .ok (.getfield 124, 3) := by decide +kernel
theorem dX3_setOut_84 : decode cX3_setOut 84 = .ok (.iload_n 3, 1) := by decide +kernel
theorem dX3_setOut_85 : decode cX3_setOut 85 = .ok (.iaload, 1) := by decide +kernel
theorem dX3_setOut_86 : decode cX3_setOut 86 = .ok (.invokestatic 125, 3) := by decide +kernel
theorem dX3_setOut_89 : decode cX3_setOut 89 = .ok (.iastore, 1) := by decide +kernel
theorem dX3_setOut_90 : decode cX3_setOut 90 = .ok (.aload_n 0, 1) := by decide +kernel
theorem dX3_setOut_91 : decode cX3_setOut 91 = .ok (.getfield 12, 3) := by decide +kernel
theorem dX3_setOut_94 : decode cX3_setOut 94 = .ok (.getfield 128, 3) := by decide +kernel
theorem dX3_setOut_97 : decode cX3_setOut 97 = .ok (.iload_n 3, 1) := by decide +kernel
theorem dX3_setOut_98 : decode cX3_setOut 98 = .ok (.dup2, 1) := by decide +kernel
theorem dX3_setOut_99 : decode cX3_setOut 99 = .ok (.iaload, 1) := by decide +kernel
theorem dX3_setOut_100 : decode cX3_setOut 100 = .ok (.iconst 1, 1) := by decide +kernel
theorem dX3_setOut_101 : decode cX3_setOut 101 = .ok (.iadd, 1) := by decide +kernel
theorem dX3_setOut_102 : decode cX3_setOut 102 = .ok (.iastore, 1) := by decide +kernel
theorem dX3_setOut_103 : decode cX3_setOut 103 = .ok (.return_, 1) := by decide +kernel
theorem dX3_closeWornRoads_0 : decode cX3_closeWornRoads 0 = .ok (.iconst 0, 1) := by decide +kernel
theorem dX3_closeWornRoads_1 : decode cX3_closeWornRoads 1 = .ok (.istore_n 1, 1) := by decide +kernel
theorem dX3_closeWornRoads_2 : decode cX3_closeWornRoads 2 = .ok (.iload_n 1, 1) := by decide +kernel
theorem dX3_closeWornRoads_3 : decode cX3_closeWornRoads 3 = .ok (.aload_n 0, 1) := by decide +kernel
theorem dX3_closeWornRoads_4 : decode cX3_closeWornRoads 4 = .ok (.getfield 12, 3) := by decide +kernel
theorem dX3_closeWornRoads_7 : decode cX3_closeWornRoads 7 = .ok (.getfield 69, 3) := by decide +kernel
theorem dX3_closeWornRoads_10 : decode cX3_closeWornRoads 10 = .ok (.if_icmp .ge 51, 3) := by decide +kernel
theorem dX3_closeWornRoads_13 : decode cX3_closeWornRoads 13 = .ok (.aload_n 0, 1) := by decide +kernel
theorem dX3_closeWornRoads_14 : decode cX3_closeWornRoads 14 = .ok (.getfield 12, 3) := by decide +kernel
theorem dX3_closeWornRoads_17 : decode cX3_closeWornRoads 17 = .ok (.getfield 57, 3) := by decide +kernel
theorem dX3_closeWornRoads_20 : decode cX3_closeWornRoads 20 = .ok (.iload_n 1, 1) := by decide +kernel
theorem dX3_closeWornRoads_21 : decode cX3_closeWornRoads 21 = .ok (.iaload, 1) := by decide +kernel
theorem dX3_closeWornRoads_22 : decode cX3_closeWornRoads 22 = .ok (.ifCond .ne 33, 3) := by decide +kernel
theorem dX3_closeWornRoads_25 : decode cX3_closeWornRoads 25 = .ok (.aload_n 0, 1) := by decide +kernel
theorem dX3_closeWornRoads_26 : decode cX3_closeWornRoads 26 = .ok (.getfield 12, 3) := by decide +kernel
theorem dX3_closeWornRoads_29 : decode cX3_closeWornRoads 29 = .ok (.getfield 128, 3) := by decide +kernel
theorem dX3_closeWornRoads_32 : decode cX3_closeWornRoads 32 = .ok (.iload_n 1, 1) := by decide +kernel
theorem dX3_closeWornRoads_33 : decode cX3_closeWornRoads 33 = .ok (.iaload, 1) := by decide +kernel
theorem dX3_closeWornRoads_34 : decode cX3_closeWornRoads 34 = .ok (.iconst 5, 1) := by decide +kernel
theorem dX3_closeWornRoads_35 : decode cX3_closeWornRoads 35 = .ok (.if_icmp .lt 20, 3) := by decide +kernel
theorem dX3_closeWornRoads_38 : decode cX3_closeWornRoads 38 = .ok (.aload_n 0, 1) := by decide +kernel
theorem dX3_closeWornRoads_39 : decode cX3_closeWornRoads 39 = .ok (.getfield 21, 3) := by decide +kernel
theorem dX3_closeWornRoads_42 : decode cX3_closeWornRoads 42 = .ok (.iload_n 1, 1) := by decide +kernel
theorem dX3_closeWornRoads_43 : decode cX3_closeWornRoads 43 = .ok (.invokevirtual 131, 3) := by decide +kernel
theorem dX3_closeWornRoads_46 : decode cX3_closeWornRoads 46 = .ok (.ifCond .ne 9, 3) := by decide +kernel
theorem dX3_closeWornRoads_49 : decode cX3_closeWornRoads 49 = .ok (.aload_n 0, 1) := by decide +kernel
theorem dX3_closeWornRoads_50 : decode cX3_closeWornRoads 50 = .ok (.iload_n 1, 1) := by decide +kernel
theorem dX3_closeWornRoads_51 : decode cX3_closeWornRoads 51 = .ok (.iconst 4, 1) := by decide +kernel
theorem dX3_closeWornRoads_52 : decode cX3_closeWornRoads 52 = .ok (.invokevirtual 134, 3) := by decide +kernel
theorem dX3_closeWornRoads_55 : decode cX3_closeWornRoads 55 = .ok (.iinc 1 1, 3) := by decide +kernel
theorem dX3_closeWornRoads_58 : decode cX3_closeWornRoads 58 = .ok (.goto (-56), 3) := by decide +kernel
theorem dX3_closeWornRoads_61 : decode cX3_closeWornRoads 61 = .ok (.return_, 1) := by decide +kernel
theorem dX3_mixed_0 : decode cX3_mixed 0 = .ok (.iload_n 0, 1) := by decide +kernel
theorem dX3_mixed_1 : decode cX3_mixed 1 = .ok (.ifCond .eq 8, 3) := by decide +kernel
theorem dX3_mixed_4 : decode cX3_mixed 4 = .ok (.iload_n 0, 1) := by decide +kernel
theorem dX3_mixed_5 : decode cX3_mixed 5 = .ok (.iload_n 1, 1) := by decide +kernel
theorem dX3_mixed_6 : decode cX3_mixed 6 = .ok (.if_icmp .ne 5, 3) := by decide +kernel
theorem dX3_mixed_9 : decode cX3_mixed 9 = .ok (.iload_n 1, 1) := by decide +kernel
theorem dX3_mixed_10 : decode cX3_mixed 10 = .ok (.ireturn, 1) := by decide +kernel
theorem dX3_mixed_11 : decode cX3_mixed 11 = .ok (.iload_n 1, 1) := by decide +kernel
theorem dX3_mixed_12 : decode cX3_mixed 12 = .ok (.ifCond .ne 5, 3) := by decide +kernel
theorem dX3_mixed_15 : decode cX3_mixed 15 = .ok (.iload_n 0, 1) := by decide +kernel
theorem dX3_mixed_16 : decode cX3_mixed 16 = .ok (.ireturn, 1) := by decide +kernel
theorem dX3_mixed_17 : decode cX3_mixed 17 = .ok (.bipush 6, 2) := by decide +kernel
theorem dX3_mixed_19 : decode cX3_mixed 19 = .ok (.iload_n 0, 1) := by decide +kernel
theorem dX3_mixed_20 : decode cX3_mixed 20 = .ok (.isub, 1) := by decide +kernel
theorem dX3_mixed_21 : decode cX3_mixed 21 = .ok (.iload_n 1, 1) := by decide +kernel
theorem dX3_mixed_22 : decode cX3_mixed 22 = .ok (.isub, 1) := by decide +kernel
theorem dX3_mixed_23 : decode cX3_mixed 23 = .ok (.ireturn, 1) := by decide +kernel
