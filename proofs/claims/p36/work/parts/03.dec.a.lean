theorem dX0_init_0 : decode cX0_init 0 = .ok (.aload_n 0, 1) := by decide +kernel
theorem dX0_init_1 : decode cX0_init 1 = .ok (.invokespecial 3, 3) := by decide +kernel
theorem dX0_init_4 : decode cX0_init 4 = .ok (.aload_n 0, 1) := by decide +kernel
theorem dX0_init_5 : decode cX0_init 5 = .ok (.bipush 20, 2) := by decide +kernel
theorem dX0_init_7 : decode cX0_init 7 = .ok (.newarray .int, 2) := by decide +kernel
theorem dX0_init_9 : decode cX0_init 9 = .ok (.putfield 9, 3) := by decide +kernel
theorem dX0_init_12 : decode cX0_init 12 = .ok (.aload_n 0, 1) := by decide +kernel
theorem dX0_init_13 : decode cX0_init 13 = .ok (.bipush 20, 2) := by decide +kernel
theorem dX0_init_15 : decode cX0_init 15 = .ok (.newarray .int, 2) := by decide +kernel
theorem dX0_init_17 : decode cX0_init 17 = .ok (.putfield 15, 3) := by decide +kernel
theorem dX0_init_20 : decode cX0_init 20 = .ok (.aload_n 0, 1) := by decide +kernel
theorem dX0_init_21 : decode cX0_init 21 = .ok (.bipush 20, 2) := by decide +kernel
theorem dX0_init_23 : decode cX0_init 23 = .ok (.newarray .int, 2) := by decide +kernel
theorem dX0_init_25 : decode cX0_init 25 = .ok (.putfield 18, 3) := by decide +kernel
theorem dX0_init_28 : decode cX0_init 28 = .ok (.aload_n 0, 1) := by decide +kernel
theorem dX0_init_29 : decode cX0_init 29 = .ok (.bipush 20, 2) := by decide +kernel
theorem dX0_init_31 : decode cX0_init 31 = .ok (.newarray .int, 2) := by decide +kernel
theorem dX0_init_33 : decode cX0_init 33 = .ok (.putfield 21, 3) := by decide +kernel
theorem dX0_init_36 : decode cX0_init 36 = .ok (.aload_n 0, 1) := by decide +kernel
theorem dX0_init_37 : decode cX0_init 37 = .ok (.bipush 20, 2) := by decide +kernel
theorem dX0_init_39 : decode cX0_init 39 = .ok (.newarray .int, 2) := by decide +kernel
theorem dX0_init_41 : decode cX0_init 41 = .ok (.putfield 24, 3) := by decide +kernel
theorem dX0_init_44 : decode cX0_init 44 = .ok (.aload_n 0, 1) := by decide +kernel
theorem dX0_init_45 : decode cX0_init 45 = .ok (.bipush 20, 2) := by decide +kernel
theorem dX0_init_47 : decode cX0_init 47 = .ok (.newarray .int, 2) := by decide +kernel
theorem dX0_init_49 : decode cX0_init 49 = .ok (.putfield 27, 3) := by decide +kernel
theorem dX0_init_52 : decode cX0_init 52 = .ok (.aload_n 0, 1) := by decide +kernel
theorem dX0_init_53 : decode cX0_init 53 = .ok (.bipush 20, 2) := by decide +kernel
theorem dX0_init_55 : decode cX0_init 55 = .ok (.newarray .int, 2) := by decide +kernel
theorem dX0_init_57 : decode cX0_init 57 = .ok (.putfield 30, 3) := by decide +kernel
theorem dX0_init_60 : decode cX0_init 60 = .ok (.return_, 1) := by decide +kernel
theorem dX0_put_0 : decode cX0_put 0 = .ok (.aload_n 0, 1) := by decide +kernel
theorem dX0_put_1 : decode cX0_put 1 = .ok (.getfield 39, 3) := by decide +kernel
theorem dX0_put_4 : decode cX0_put 4 = .ok (.istore 5, 2) := by decide +kernel
theorem dX0_put_6 : decode cX0_put 6 = .ok (.aload_n 0, 1) := by decide +kernel
theorem dX0_put_7 : decode cX0_put 7 = .ok (.getfield 9, 3) := by decide +kernel
theorem dX0_put_10 : decode cX0_put 10 = .ok (.iload 5, 2) := by decide +kernel
theorem dX0_put_12 : decode cX0_put 12 = .ok (.iload_n 1, 1) := by decide +kernel
theorem dX0_put_13 : decode cX0_put 13 = .ok (.iastore, 1) := by decide +kernel
theorem dX0_put_14 : decode cX0_put 14 = .ok (.aload_n 0, 1) := by decide +kernel
theorem dX0_put_15 : decode cX0_put 15 = .ok (.getfield 15, 3) := by decide +kernel
theorem dX0_put_18 : decode cX0_put 18 = .ok (.iload 5, 2) := by decide +kernel
theorem dX0_put_20 : decode cX0_put 20 = .ok (.iload_n 2, 1) := by decide +kernel
theorem dX0_put_21 : decode cX0_put 21 = .ok (.iastore, 1) := by decide +kernel
theorem dX0_put_22 : decode cX0_put 22 = .ok (.aload_n 0, 1) := by decide +kernel
theorem dX0_put_23 : decode cX0_put 23 = .ok (.getfield 18, 3) := by decide +kernel
theorem dX0_put_26 : decode cX0_put 26 = .ok (.iload 5, 2) := by decide +kernel
theorem dX0_put_28 : decode cX0_put 28 = .ok (.iload_n 3, 1) := by decide +kernel
theorem dX0_put_29 : decode cX0_put 29 = .ok (.iastore, 1) := by decide +kernel
theorem dX0_put_30 : decode cX0_put 30 = .ok (.aload_n 0, 1) := by decide +kernel
theorem dX0_put_31 : decode cX0_put 31 = .ok (.getfield 21, 3) := by decide +kernel
theorem dX0_put_34 : decode cX0_put 34 = .ok (.iload 5, 2) := by decide +kernel
theorem dX0_put_36 : decode cX0_put 36 = .ok (.iload 4, 2) := by decide +kernel
theorem dX0_put_38 : decode cX0_put 38 = .ok (.iastore, 1) := by decide +kernel
theorem dX0_put_39 : decode cX0_put 39 = .ok (.aload_n 0, 1) := by decide +kernel
theorem dX0_put_40 : decode cX0_put 40 = .ok (.dup, 1) := by decide +kernel
theorem dX0_put_41 : decode cX0_put 41 = .ok (.getfield 39, 3) := by decide +kernel
theorem dX0_put_44 : decode cX0_put 44 = .ok (.iconst 1, 1) := by decide +kernel
theorem dX0_put_45 : decode cX0_put 45 = .ok (.iadd, 1) := by decide +kernel
theorem dX0_put_46 : decode cX0_put 46 = .ok (.putfield 39, 3) := by decide +kernel
theorem dX0_put_49 : decode cX0_put 49 = .ok (.iload 5, 2) := by decide +kernel
theorem dX0_put_51 : decode cX0_put 51 = .ok (.ireturn, 1) := by decide +kernel
theorem dX0_lengthNow_0 : decode cX0_lengthNow 0 = .ok (.aload_n 0, 1) := by decide +kernel
theorem dX0_lengthNow_1 : decode cX0_lengthNow 1 = .ok (.getfield 18, 3) := by decide +kernel
theorem dX0_lengthNow_4 : decode cX0_lengthNow 4 = .ok (.iload_n 1, 1) := by decide +kernel
theorem dX0_lengthNow_5 : decode cX0_lengthNow 5 = .ok (.iaload, 1) := by decide +kernel
theorem dX0_lengthNow_6 : decode cX0_lengthNow 6 = .ok (.aload_n 0, 1) := by decide +kernel
theorem dX0_lengthNow_7 : decode cX0_lengthNow 7 = .ok (.getfield 27, 3) := by decide +kernel
theorem dX0_lengthNow_10 : decode cX0_lengthNow 10 = .ok (.iload_n 1, 1) := by decide +kernel
theorem dX0_lengthNow_11 : decode cX0_lengthNow 11 = .ok (.iaload, 1) := by decide +kernel
theorem dX0_lengthNow_12 : decode cX0_lengthNow 12 = .ok (.iadd, 1) := by decide +kernel
theorem dX0_lengthNow_13 : decode cX0_lengthNow 13 = .ok (.ireturn, 1) := by decide +kernel
theorem dX0_endFrom_0 : decode cX0_endFrom 0 = .ok (.aload_n 0, 1) := by decide +kernel
theorem dX0_endFrom_1 : decode cX0_endFrom 1 = .ok (.getfield 9, 3) := by decide +kernel
theorem dX0_endFrom_4 : decode cX0_endFrom 4 = .ok (.iload_n 1, 1) := by decide +kernel
theorem dX0_endFrom_5 : decode cX0_endFrom 5 = .ok (.iaload, 1) := by decide +kernel
theorem dX0_endFrom_6 : decode cX0_endFrom 6 = .ok (.iload_n 2, 1) := by decide +kernel
theorem dX0_endFrom_7 : decode cX0_endFrom 7 = .ok (.if_icmp .ne 10, 3) := by decide +kernel
theorem dX0_endFrom_10 : decode cX0_endFrom 10 = .ok (.aload_n 0, 1) := by decide +kernel
theorem dX0_endFrom_11 : decode cX0_endFrom 11 = .ok (.getfield 15, 3) := by decide +kernel
theorem dX0_endFrom_14 : decode cX0_endFrom 14 = .ok (.iload_n 1, 1) := by decide +kernel
theorem dX0_endFrom_15 : decode cX0_endFrom 15 = .ok (.iaload, 1) := by decide +kernel
theorem dX0_endFrom_16 : decode cX0_endFrom 16 = .ok (.ireturn, 1) := by decide +kernel
theorem dX0_endFrom_17 : decode cX0_endFrom 17 = .ok (.aload_n 0, 1) := by decide +kernel
theorem dX0_endFrom_18 : decode cX0_endFrom 18 = .ok (.getfield 15, 3) := by decide +kernel
theorem dX0_endFrom_21 : decode cX0_endFrom 21 = .ok (.iload_n 1, 1) := by decide +kernel
theorem dX0_endFrom_22 : decode cX0_endFrom 22 = .ok (.iaload, 1) := by decide +kernel
theorem dX0_endFrom_23 : decode cX0_endFrom 23 = .ok (.iload_n 2, 1) := by decide +kernel
theorem dX0_endFrom_24 : decode cX0_endFrom 24 = .ok (.if_icmp .ne 10, 3) := by decide +kernel
theorem dX0_endFrom_27 : decode cX0_endFrom 27 = .ok (.aload_n 0, 1) := by decide +kernel
theorem dX0_endFrom_28 : decode cX0_endFrom 28 = .ok (.getfield 9, 3) := by decide +kernel
theorem dX0_endFrom_31 : decode cX0_endFrom 31 = .ok (.iload_n 1, 1) := by decide +kernel
theorem dX0_endFrom_32 : decode cX0_endFrom 32 = .ok (.iaload, 1) := by decide +kernel
theorem dX0_endFrom_33 : decode cX0_endFrom 33 = .ok (.ireturn, 1) := by decide +kernel
theorem dX0_endFrom_34 : decode cX0_endFrom 34 = .ok (.iconst (-1), 1) := by decide +kernel
theorem dX0_endFrom_35 : decode cX0_endFrom 35 = .ok (.ireturn, 1) := by decide +kernel
theorem dX0_reopen_0 : decode cX0_reopen 0 = .ok (.aload_n 0, 1) := by decide +kernel
theorem dX0_reopen_1 : decode cX0_reopen 1 = .ok (.getfield 24, 3) := by decide +kernel
theorem dX0_reopen_4 : decode cX0_reopen 4 = .ok (.iload_n 1, 1) := by decide +kernel
theorem dX0_reopen_5 : decode cX0_reopen 5 = .ok (.iconst 0, 1) := by decide +kernel
theorem dX0_reopen_6 : decode cX0_reopen 6 = .ok (.iastore, 1) := by decide +kernel
theorem dX0_reopen_7 : decode cX0_reopen 7 = .ok (.aload_n 0, 1) := by decide +kernel
theorem dX0_reopen_8 : decode cX0_reopen 8 = .ok (.getfield 27, 3) := by decide +kernel
theorem dX0_reopen_11 : decode cX0_reopen 11 = .ok (.iload_n 1, 1) := by decide +kernel
theorem dX0_reopen_12 : decode cX0_reopen 12 = .ok (.iaload, 1) := by decide +kernel
theorem dX0_reopen_13 : decode cX0_reopen 13 = .ok (.iconst 3, 1) := by decide +kernel
theorem dX0_reopen_14 : decode cX0_reopen 14 = .ok (.if_icmp .ge 13, 3) := by decide +kernel
theorem dX0_reopen_17 : decode cX0_reopen 17 = .ok (.aload_n 0, 1) := by decide +kernel
theorem dX0_reopen_18 : decode cX0_reopen 18 = .ok (.getfield 27, 3) := by decide +kernel
theorem dX0_reopen_21 : decode cX0_reopen 21 = .ok (.iload_n 1, 1) := by decide +kernel
theorem dX0_reopen_22 : decode cX0_reopen 22 = .ok (.dup2, 1) := by decide +kernel
theorem dX0_reopen_23 : decode cX0_reopen 23 = .ok (.iaload, 1) := by decide +kernel
theorem dX0_reopen_24 : decode cX0_reopen 24 = .ok (.iconst 1, 1) := by decide +kernel
theorem dX0_reopen_25 : decode cX0_reopen 25 = .ok (.iadd, 1) := by decide +kernel
theorem dX0_reopen_26 : decode cX0_reopen 26 = .ok (.iastore, 1) := by decide +kernel
theorem dX0_reopen_27 : decode cX0_reopen 27 = .ok (.return_, 1) := by decide +kernel
theorem dX0_countClosed_0 : decode cX0_countClosed 0 = .ok (.iconst 0, 1) := by decide +kernel
theorem dX0_countClosed_1 : decode cX0_countClosed 1 = .ok (.istore_n 1, 1) := by decide +kernel
theorem dX0_countClosed_2 : decode cX0_countClosed 2 = .ok (.iconst 0, 1) := by decide +kernel
theorem dX0_countClosed_3 : decode cX0_countClosed 3 = .ok (.istore_n 2, 1) := by decide +kernel
theorem dX0_countClosed_4 : decode cX0_countClosed 4 = .ok (.iload_n 2, 1) := by decide +kernel
theorem dX0_countClosed_5 : decode cX0_countClosed 5 = .ok (.aload_n 0, 1) := by decide +kernel
theorem dX0_countClosed_6 : decode cX0_countClosed 6 = .ok (.getfield 39, 3) := by decide +kernel
theorem dX0_countClosed_9 : decode cX0_countClosed 9 = .ok (.if_icmp .ge 21, 3) := by decide +kernel
theorem dX0_countClosed_12 : decode cX0_countClosed 12 = .ok (.aload_n 0, 1) := by decide +kernel
theorem dX0_countClosed_13 : decode cX0_countClosed 13 = .ok (.getfield 30, 3) := by decide +kernel
theorem dX0_countClosed_16 : decode cX0_countClosed 16 = .ok (.iload_n 2, 1) := by decide +kernel
theorem dX0_countClosed_17 : decode cX0_countClosed 17 = .ok (.iaload, 1) := by decide +kernel
theorem dX0_countClosed_18 : decode cX0_countClosed 18 = .ok (.ifCond .le 6, 3) := by decide +kernel
theorem dX0_countClosed_21 : decode cX0_countClosed 21 = .ok (.iinc 1 1, 3) := by decide +kernel
theorem dX0_countClosed_24 : decode cX0_countClosed 24 = .ok (.iinc 2 1, 3) := by decide +kernel
theorem dX0_countClosed_27 : decode cX0_countClosed 27 = .ok (.goto (-23), 3) := by decide +kernel
theorem dX0_countClosed_30 : decode cX0_countClosed 30 = .ok (.iload_n 1, 1) := by decide +kernel
theorem dX0_countClosed_31 : decode cX0_countClosed 31 = .ok (.ireturn, 1) := by decide +kernel
theorem dX0_openWithMostWear_0 : decode cX0_openWithMostWear 0 = .ok (.iconst (-1), 1) := by decide +kernel
theorem dX0_openWithMostWear_1 : decode cX0_openWithMostWear 1 = .ok (.istore_n 1, 1) := by decide +kernel
theorem dX0_openWithMostWear_2 : decode cX0_openWithMostWear 2 = .ok (.iconst (-1), 1) := by decide +kernel
theorem dX0_openWithMostWear_3 : decode cX0_openWithMostWear 3 = .ok (.istore_n 2, 1) := by decide +kernel
theorem dX0_openWithMostWear_4 : decode cX0_openWithMostWear 4 = .ok (.iconst 0, 1) := by decide +kernel
theorem dX0_openWithMostWear_5 : decode cX0_openWithMostWear 5 = .ok (.istore_n 3, 1) := by decide +kernel
theorem dX0_openWithMostWear_6 : decode cX0_openWithMostWear 6 = .ok (.iload_n 3, 1) := by decide +kernel
theorem dX0_openWithMostWear_7 : decode cX0_openWithMostWear 7 = .ok (.aload_n 0, 1) := by decide +kernel
theorem dX0_openWithMostWear_8 : decode cX0_openWithMostWear 8 = .ok (.getfield 39, 3) := by decide +kernel
theorem dX0_openWithMostWear_11 : decode cX0_openWithMostWear 11 = .ok (.if_icmp .ge 37, 3) := by decide +kernel
theorem dX0_openWithMostWear_14 : decode cX0_openWithMostWear 14 = .ok (.aload_n 0, 1) := by decide +kernel
theorem dX0_openWithMostWear_15 : decode cX0_openWithMostWear 15 = .ok (.getfield 30, 3) := by decide +kernel
theorem dX0_openWithMostWear_18 : decode cX0_openWithMostWear 18 = .ok (.iload_n 3, 1) := by decide +kernel
theorem dX0_openWithMostWear_19 : decode cX0_openWithMostWear 19 = .ok (.iaload, 1) := by decide +kernel
theorem dX0_openWithMostWear_20 : decode cX0_openWithMostWear 20 = .ok (.ifCond .ne 22, 3) := by decide +kernel
theorem dX0_openWithMostWear_23 : decode cX0_openWithMostWear 23 = .ok (.aload_n 0, 1) := by decide +kernel
theorem dX0_openWithMostWear_24 : decode cX0_openWithMostWear 24 = .ok (.getfield 24, 3) := by decide +kernel
theorem dX0_openWithMostWear_27 : decode cX0_openWithMostWear 27 = .ok (.iload_n 3, 1) := by decide +kernel
theorem dX0_openWithMostWear_28 : decode cX0_openWithMostWear 28 = .ok (.iaload, 1) := by decide +kernel
theorem dX0_openWithMostWear_29 : decode cX0_openWithMostWear 29 = .ok (.iload_n 2, 1) := by decide +kernel
theorem dX0_openWithMostWear_30 : decode cX0_openWithMostWear 30 = .ok (.if_icmp .le 12, 3) := by decide +kernel
theorem dX0_openWithMostWear_33 : decode cX0_openWithMostWear 33 = .ok (.aload_n 0, 1) := by decide +kernel
theorem dX0_openWithMostWear_34 : decode cX0_openWithMostWear 34 = .ok (.getfield 24, 3) := by decide +kernel
theorem dX0_openWithMostWear_37 : decode cX0_openWithMostWear 37 = .ok (.iload_n 3, 1) := by decide +kernel
theorem dX0_openWithMostWear_38 : decode cX0_openWithMostWear 38 = .ok (.iaload, 1) := by decide +kernel
theorem dX0_openWithMostWear_39 : decode cX0_openWithMostWear 39 = .ok (.istore_n 2, 1) := by decide +kernel
theorem dX0_openWithMostWear_40 : decode cX0_openWithMostWear 40 = .ok (.iload_n 3, 1) := by decide +kernel
theorem dX0_openWithMostWear_41 : decode cX0_openWithMostWear 41 = .ok (.istore_n 1, 1) := by decide +kernel
theorem dX0_openWithMostWear_42 : decode cX0_openWithMostWear 42 = .ok (.iinc 3 1, 3) := by decide +kernel
theorem dX0_openWithMostWear_45 : decode cX0_openWithMostWear 45 = .ok (.goto (-39), 3) := by decide +kernel
theorem dX0_openWithMostWear_48 : decode cX0_openWithMostWear 48 = .ok (.iload_n 1, 1) := by decide +kernel
theorem dX0_openWithMostWear_49 : decode cX0_openWithMostWear 49 = .ok (.ireturn, 1) := by decide +kernel
theorem dX1_init_0 : decode cX1_init 0 = .ok (.aload_n 0, 1) := by decide +kernel
theorem dX1_init_1 : decode cX1_init 1 = .ok (.invokespecial 3, 3) := by decide +kernel
theorem dX1_init_4 : decode cX1_init 4 = .ok (.aload_n 0, 1) := by decide +kernel
theorem dX1_init_5 : decode cX1_init 5 = .ok (.bipush 12, 2) := by decide +kernel
theorem dX1_init_7 : decode cX1_init 7 = .ok (.newarray .int, 2) := by decide +kernel
theorem dX1_init_9 : decode cX1_init 9 = .ok (.putfield 9, 3) := by decide +kernel
theorem dX1_init_12 : decode cX1_init 12 = .ok (.aload_n 0, 1) := by decide +kernel
theorem dX1_init_13 : decode cX1_init 13 = .ok (.bipush 12, 2) := by decide +kernel
theorem dX1_init_15 : decode cX1_init 15 = .ok (.newarray .int, 2) := by decide +kernel
theorem dX1_init_17 : decode cX1_init 17 = .ok (.putfield 15, 3) := by decide +kernel
theorem dX1_init_20 : decode cX1_init 20 = .ok (.aload_n 0, 1) := by decide +kernel
theorem dX1_init_21 : decode cX1_init 21 = .ok (.bipush 12, 2) := by decide +kernel
theorem dX1_init_23 : decode cX1_init 23 = .ok (.newarray .int, 2) := by decide +kernel
theorem dX1_init_25 : decode cX1_init 25 = .ok (.putfield 18, 3) := by decide +kernel
theorem dX1_init_28 : decode cX1_init 28 = .ok (.aload_n 0, 1) := by decide +kernel
theorem dX1_init_29 : decode cX1_init 29 = .ok (.bipush 12, 2) := by decide +kernel
theorem dX1_init_31 : decode cX1_init 31 = .ok (.newarray .int, 2) := by decide +kernel
theorem dX1_init_33 : decode cX1_init 33 = .ok (.putfield 21, 3) := by decide +kernel
theorem dX1_init_36 : decode cX1_init 36 = .ok (.aload_n 0, 1) := by decide +kernel
theorem dX1_init_37 : decode cX1_init 37 = .ok (.bipush 12, 2) := by decide +kernel
theorem dX1_init_39 : decode cX1_init 39 = .ok (.newarray .int, 2) := by decide +kernel
theorem dX1_init_41 : decode cX1_init 41 = .ok (.putfield 24, 3) := by decide +kernel
theorem dX1_init_44 : decode cX1_init 44 = .ok (.aload_n 0, 1) := by decide +kernel
theorem dX1_init_45 : decode cX1_init 45 = .ok (.bipush 12, 2) := by decide +kernel
theorem dX1_init_47 : decode cX1_init 47 = .ok (.newarray .int, 2) := by decide +kernel
theorem dX1_init_49 : decode cX1_init 49 = .ok (.putfield 27, 3) := by decide +kernel
theorem dX1_init_52 : decode cX1_init 52 = .ok (.aload_n 0, 1) := by decide +kernel
theorem dX1_init_53 : decode cX1_init 53 = .ok (.bipush 12, 2) := by decide +kernel
theorem dX1_init_55 : decode cX1_init 55 = .ok (.newarray .int, 2) := by decide +kernel
theorem dX1_init_57 : decode cX1_init 57 = .ok (.putfield 30, 3) := by decide +kernel
theorem dX1_init_60 : decode cX1_init 60 = .ok (.aload_n 0, 1) := by decide +kernel
theorem dX1_init_61 : decode cX1_init 61 = .ok (.bipush 12, 2) := by decide +kernel
theorem dX1_init_63 : decode cX1_init 63 = .ok (.newarray .int, 2) := by decide +kernel
theorem dX1_init_65 : decode cX1_init 65 = .ok (.putfield 33, 3) := by decide +kernel
theorem dX1_init_68 : decode cX1_init 68 = .ok (.aload_n 0, 1) := by decide +kernel
theorem dX1_init_69 : decode cX1_init 69 = .ok (.bipush 12, 2) := by decide +kernel
theorem dX1_init_71 : decode cX1_init 71 = .ok (.newarray .int, 2) := by decide +kernel
theorem dX1_init_73 : decode cX1_init 73 = .ok (.putfield 36, 3) := by decide +kernel
theorem dX1_init_76 : decode cX1_init 76 = .ok (.return_, 1) := by decide +kernel
theorem dX1_put_0 : decode cX1_put 0 = .ok (.aload_n 0, 1) := by decide +kernel
theorem dX1_put_1 : decode cX1_put 1 = .ok (.getfield 45, 3) := by decide +kernel
theorem dX1_put_4 : decode cX1_put 4 = .ok (.istore 5, 2) := by decide +kernel
theorem dX1_put_6 : decode cX1_put 6 = .ok (.aload_n 0, 1) := by decide +kernel
theorem dX1_put_7 : decode cX1_put 7 = .ok (.getfield 9, 3) := by decide +kernel
theorem dX1_put_10 : decode cX1_put 10 = .ok (.iload 5, 2) := by decide +kernel
theorem dX1_put_12 : decode cX1_put 12 = .ok (.iload_n 1, 1) := by decide +kernel
theorem dX1_put_13 : decode cX1_put 13 = .ok (.iastore, 1) := by decide +kernel
theorem dX1_put_14 : decode cX1_put 14 = .ok (.aload_n 0, 1) := by decide +kernel
theorem dX1_put_15 : decode cX1_put 15 = .ok (.getfield 15, 3) := by decide +kernel
theorem dX1_put_18 : decode cX1_put 18 = .ok (.iload 5, 2) := by decide +kernel
theorem dX1_put_20 : decode cX1_put 20 = .ok (.iconst (-1), 1) := by decide +kernel
theorem dX1_put_21 : decode cX1_put 21 = .ok (.iastore, 1) := by decide +kernel
theorem dX1_put_22 : decode cX1_put 22 = .ok (.aload_n 0, 1) := by decide +kernel
theorem dX1_put_23 : decode cX1_put 23 = .ok (.getfield 24, 3) := by decide +kernel
theorem dX1_put_26 : decode cX1_put 26 = .ok (.iload 5, 2) := by decide +kernel
theorem dX1_put_28 : decode cX1_put 28 = .ok (.iload_n 2, 1) := by decide +kernel
theorem dX1_put_29 : decode cX1_put 29 = .ok (.iastore, 1) := by decide +kernel
theorem dX1_put_30 : decode cX1_put 30 = .ok (.aload_n 0, 1) := by decide +kernel
theorem dX1_put_31 : decode cX1_put 31 = .ok (.getfield 27, 3) := by decide +kernel
theorem dX1_put_34 : decode cX1_put 34 = .ok (.iload 5, 2) := by decide +kernel
theorem dX1_put_36 : decode cX1_put 36 = .ok (.iconst 0, 1) := by decide +kernel
theorem dX1_put_37 : decode cX1_put 37 = .ok (.iastore, 1) := by decide +kernel
theorem dX1_put_38 : decode cX1_put 38 = .ok (.aload_n 0, 1) := by decide +kernel
theorem dX1_put_39 : decode cX1_put 39 = .ok (.getfield 30, 3) := by decide +kernel
theorem dX1_put_42 : decode cX1_put 42 = .ok (.iload 5, 2) := by decide +kernel
theorem dX1_put_44 : decode cX1_put 44 = .ok (.iload 4, 2) := by decide +kernel
theorem dX1_put_46 : decode cX1_put 46 = .ok (.iastore, 1) := by decide +kernel
theorem dX1_put_47 : decode cX1_put 47 = .ok (.aload_n 0, 1) := by decide +kernel
theorem dX1_put_48 : decode cX1_put 48 = .ok (.getfield 33, 3) := by decide +kernel
theorem dX1_put_51 : decode cX1_put 51 = .ok (.iload 5, 2) := by decide +kernel
theorem dX1_put_53 : decode cX1_put 53 = .ok (.iload_n 3, 1) := by decide +kernel
theorem dX1_put_54 : decode cX1_put 54 = .ok (.iastore, 1) := by decide +kernel
theorem dX1_put_55 : decode cX1_put 55 = .ok (.aload_n 0, 1) := by decide +kernel
theorem dX1_put_56 : decode cX1_put 56 = .ok (.getfield 36, 3) := by decide +kernel
theorem dX1_put_59 : decode cX1_put 59 = .ok (.iload 5, 2) := by decide +kernel
theorem dX1_put_61 : decode cX1_put 61 = .ok (.iconst (-1), 1) := by decide +kernel
theorem dX1_put_62 : decode cX1_put 62 = .ok (.iastore, 1) := by decide +kernel
theorem dX1_put_63 : decode cX1_put 63 = .ok (.aload_n 0, 1) := by decide +kernel
theorem dX1_put_64 : decode cX1_put 64 = .ok (.dup, 1) := by decide +kernel
theorem dX1_put_65 : decode cX1_put 65 = .ok (.getfield 45, 3) := by decide +kernel
theorem dX1_put_68 : decode cX1_put 68 = .ok (.iconst 1, 1) := by decide +kernel
theorem dX1_put_69 : decode cX1_put 69 = .ok (.iadd, 1) := by decide +kernel
theorem dX1_put_70 : decode cX1_put 70 = .ok (.putfield 45, 3) := by decide +kernel
theorem dX1_put_73 : decode cX1_put 73 = .ok (.iload 5, 2) := by decide +kernel
theorem dX1_put_75 : decode cX1_put 75 = .ok (.ireturn, 1) := by decide +kernel
theorem dX1_isIn_0 : decode cX1_isIn 0 = .ok (.aload_n 0, 1) := by decide +kernel
theorem dX1_isIn_1 : decode cX1_isIn 1 = .ok (.getfield 36, 3) := by decide +kernel
theorem dX1_isIn_4 : decode cX1_isIn 4 = .ok (.iload_n 1, 1) := by decide +kernel
theorem dX1_isIn_5 : decode cX1_isIn 5 = .ok (.iaload, 1) := by decide +kernel
theorem dX1_isIn_6 : decode cX1_isIn 6 = .ok (.ifCond .lt 7, 3) := by decide +kernel
theorem dX1_isIn_9 : decode cX1_isIn 9 = .ok (.iconst 1, 1) := by decide +kernel
theorem dX1_isIn_10 : decode cX1_isIn 10 = .ok (.goto 4, 3) := by decide +kernel
theorem dX1_isIn_13 : decode cX1_isIn 13 = .ok (.iconst 0, 1) := by decide +kernel
theorem dX1_isIn_14 : decode cX1_isIn 14 = .ok (.ireturn, 1) := by decide +kernel
theorem dX1_take_0 : decode cX1_take 0 = .ok (.aload_n 0, 1) := by decide +kernel
theorem dX1_take_1 : decode cX1_take 1 = .ok (.getfield 9, 3) := by decide +kernel
theorem dX1_take_4 : decode cX1_take 4 = .ok (.iload_n 1, 1) := by decide +kernel
theorem dX1_take_5 : decode cX1_take 5 = .ok (.iconst (-1), 1) := by decide +kernel
theorem dX1_take_6 : decode cX1_take 6 = .ok (.iastore, 1) := by decide +kernel
theorem dX1_take_7 : decode cX1_take 7 = .ok (.aload_n 0, 1) := by decide +kernel
theorem dX1_take_8 : decode cX1_take 8 = .ok (.getfield 15, 3) := by decide +kernel
theorem dX1_take_11 : decode cX1_take 11 = .ok (.iload_n 1, 1) := by decide +kernel
theorem dX1_take_12 : decode cX1_take 12 = .ok (.iload_n 2, 1) := by decide +kernel
theorem dX1_take_13 : decode cX1_take 13 = .ok (.iastore, 1) := by decide +kernel
theorem dX1_take_14 : decode cX1_take 14 = .ok (.aload_n 0, 1) := by decide +kernel
theorem dX1_take_15 : decode cX1_take 15 = .ok (.getfield 18, 3) := by decide +kernel
theorem dX1_take_18 : decode cX1_take 18 = .ok (.iload_n 1, 1) := by decide +kernel
theorem dX1_take_19 : decode cX1_take 19 = .ok (.iload_n 3, 1) := by decide +kernel
theorem dX1_take_20 : decode cX1_take 20 = .ok (.iastore, 1) := by decide +kernel
theorem dX1_take_21 : decode cX1_take 21 = .ok (.aload_n 0, 1) := by decide +kernel
theorem dX1_take_22 : decode cX1_take 22 = .ok (.getfield 21, 3) := by decide +kernel
theorem dX1_take_25 : decode cX1_take 25 = .ok (.iload_n 1, 1) := by decide +kernel
theorem dX1_take_26 : decode cX1_take 26 = .ok (.iload 4, 2) := by decide +kernel
theorem dX1_take_28 : decode cX1_take 28 = .ok (.iastore, 1) := by decide +kernel
theorem dX1_take_29 : decode cX1_take 29 = .ok (.return_, 1) := by decide +kernel
theorem dX1_walk_0 : decode cX1_walk 0 = .ok (.aload_n 0, 1) := by decide +kernel
theorem dX1_walk_1 : decode cX1_walk 1 = .ok (.getfield 15, 3) := by decide +kernel
theorem dX1_walk_4 : decode cX1_walk 4 = .ok (.iload_n 1, 1) := by decide +kernel
theorem dX1_walk_5 : decode cX1_walk 5 = .ok (.iaload, 1) := by decide +kernel
theorem dX1_walk_6 : decode cX1_walk 6 = .ok (.ifCond .ge 4, 3) := by decide +kernel
theorem dX1_walk_9 : decode cX1_walk 9 = .ok (.return_, 1) := by decide +kernel
theorem dX1_walk_10 : decode cX1_walk 10 = .ok (.aload_n 0, 1) := by decide +kernel
theorem dX1_walk_11 : decode cX1_walk 11 = .ok (.getfield 21, 3) := by decide +kernel
theorem dX1_walk_14 : decode cX1_walk 14 = .ok (.iload_n 1, 1) := by decide +kernel
theorem dX1_walk_15 : decode cX1_walk 15 = .ok (.dup2, 1) := by decide +kernel
theorem dX1_walk_16 : decode cX1_walk 16 = .ok (.iaload, 1) := by decide +kernel
theorem dX1_walk_17 : decode cX1_walk 17 = .ok (.iconst 1, 1) := by decide +kernel
theorem dX1_walk_18 : decode cX1_walk 18 = .ok (.isub, 1) := by decide +kernel
theorem dX1_walk_19 : decode cX1_walk 19 = .ok (.iastore, 1) := by decide +kernel
theorem dX1_walk_20 : decode cX1_walk 20 = .ok (.aload_n 0, 1) := by decide +kernel
theorem dX1_walk_21 : decode cX1_walk 21 = .ok (.getfield 21, 3) := by decide +kernel
theorem dX1_walk_24 : decode cX1_walk 24 = .ok (.iload_n 1, 1) := by decide +kernel
theorem dX1_walk_25 : decode cX1_walk 25 = .ok (.iaload, 1) := by decide +kernel
theorem dX1_walk_26 : decode cX1_walk 26 = .ok (.ifCond .le 4, 3) := by decide +kernel
theorem dX1_walk_29 : decode cX1_walk 29 = .ok (.return_, 1) := by decide +kernel
theorem dX1_walk_30 : decode cX1_walk 30 = .ok (.aload_n 0, 1) := by decide +kernel
theorem dX1_walk_31 : decode cX1_walk 31 = .ok (.getfield 9, 3) := by decide +kernel
theorem dX1_walk_34 : decode cX1_walk 34 = .ok (.iload_n 1, 1) := by decide +kernel
theorem dX1_walk_35 : decode cX1_walk 35 = .ok (.aload_n 0, 1) := by decide +kernel
theorem dX1_walk_36 : decode cX1_walk 36 = .ok (.getfield 18, 3) := by decide +kernel
theorem dX1_walk_39 : decode cX1_walk 39 = .ok (.iload_n 1, 1) := by decide +kernel
theorem dX1_walk_40 : decode cX1_walk 40 = .ok (.iaload, 1) := by decide +kernel
theorem dX1_walk_41 : decode cX1_walk 41 = .ok (.iastore, 1) := by decide +kernel
theorem dX1_walk_42 : decode cX1_walk 42 = .ok (.aload_n 0, 1) := by decide +kernel
theorem dX1_walk_43 : decode cX1_walk 43 = .ok (.getfield 15, 3) := by decide +kernel
theorem dX1_walk_46 : decode cX1_walk 46 = .ok (.iload_n 1, 1) := by decide +kernel
theorem dX1_walk_47 : decode cX1_walk 47 = .ok (.iconst (-1), 1) := by decide +kernel
theorem dX1_walk_48 : decode cX1_walk 48 = .ok (.iastore, 1) := by decide +kernel
theorem dX1_walk_49 : decode cX1_walk 49 = .ok (.aload_n 0, 1) := by decide +kernel
theorem dX1_walk_50 : decode cX1_walk 50 = .ok (.getfield 9, 3) := by decide +kernel
theorem dX1_walk_53 : decode cX1_walk 53 = .ok (.iload_n 1, 1) := by decide +kernel
theorem dX1_walk_54 : decode cX1_walk 54 = .ok (.iaload, 1) := by decide +kernel
theorem dX1_walk_55 : decode cX1_walk 55 = .ok (.aload_n 0, 1) := by decide +kernel
theorem dX1_walk_56 : decode cX1_walk 56 = .ok (.getfield 24, 3) := by decide +kernel
theorem dX1_walk_59 : decode cX1_walk 59 = .ok (.iload_n 1, 1) := by decide +kernel
theorem dX1_walk_60 : decode cX1_walk 60 = .ok (.iaload, 1) := by decide +kernel
theorem dX1_walk_61 : decode cX1_walk 61 = .ok (.if_icmp .ne 29, 3) := by decide +kernel
theorem dX1_walk_64 : decode cX1_walk 64 = .ok (.aload_n 0, 1) := by decide +kernel
theorem dX1_walk_65 : decode cX1_walk 65 = .ok (.getfield 36, 3) := by decide +kernel
theorem dX1_walk_68 : decode cX1_walk 68 = .ok (.iload_n 1, 1) := by decide +kernel
theorem dX1_walk_69 : decode cX1_walk 69 = .ok (.iload_n 2, 1) := by decide +kernel
theorem dX1_walk_70 : decode cX1_walk 70 = .ok (.iconst 1, 1) := by decide +kernel
theorem dX1_walk_71 : decode cX1_walk 71 = .ok (.iadd, 1) := by decide +kernel
theorem dX1_walk_72 : decode cX1_walk 72 = .ok (.aload_n 0, 1) := by decide +kernel
theorem dX1_walk_73 : decode cX1_walk 73 = .ok (.getfield 30, 3) := by decide +kernel
theorem dX1_walk_76 : decode cX1_walk 76 = .ok (.iload_n 1, 1) := by decide +kernel
theorem dX1_walk_77 : decode cX1_walk 77 = .ok (.iaload, 1) := by decide +kernel
theorem dX1_walk_78 : decode cX1_walk 78 = .ok (.isub, 1) := by decide +kernel
theorem dX1_walk_79 : decode cX1_walk 79 = .ok (.iastore, 1) := by decide +kernel
theorem dX1_walk_80 : decode cX1_walk 80 = .ok (.aload_n 0, 1) := by decide +kernel
theorem dX1_walk_81 : decode cX1_walk 81 = .ok (.dup, 1) := by decide +kernel
theorem dX1_walk_82 : decode cX1_walk 82 = .ok (.getfield 49, 3) := by decide +kernel
theorem dX1_walk_85 : decode cX1_walk 85 = .ok (.iconst 1, 1) := by decide +kernel
theorem dX1_walk_86 : decode cX1_walk 86 = .ok (.iadd, 1) := by decide +kernel
theorem dX1_walk_87 : decode cX1_walk 87 = .ok (.putfield 49, 3) := by decide +kernel
theorem dX1_walk_90 : decode cX1_walk 90 = .ok (.return_, 1) := by decide +kernel
theorem dX1_countOn_0 : decode cX1_countOn 0 = .ok (.iconst 0, 1) := by decide +kernel
theorem dX1_countOn_1 : decode cX1_countOn 1 = .ok (.istore_n 2, 1) := by decide +kernel
theorem dX1_countOn_2 : decode cX1_countOn 2 = .ok (.iconst 0, 1) := by decide +kernel
theorem dX1_countOn_3 : decode cX1_countOn 3 = .ok (.istore_n 3, 1) := by decide +kernel
theorem dX1_countOn_4 : decode cX1_countOn 4 = .ok (.iload_n 3, 1) := by decide +kernel
theorem dX1_countOn_5 : decode cX1_countOn 5 = .ok (.aload_n 0, 1) := by decide +kernel
theorem dX1_countOn_6 : decode cX1_countOn 6 = .ok (.getfield 45, 3) := by decide +kernel
theorem dX1_countOn_9 : decode cX1_countOn 9 = .ok (.if_icmp .ge 22, 3) := by decide +kernel
theorem dX1_countOn_12 : decode cX1_countOn 12 = .ok (.aload_n 0, 1) := by decide +kernel
theorem dX1_countOn_13 : decode cX1_countOn 13 = .ok (.getfield 15, 3) := by decide +kernel
theorem dX1_countOn_16 : decode cX1_countOn 16 = .ok (.iload_n 3, 1) := by decide +kernel
theorem dX1_countOn_17 : decode cX1_countOn 17 = .ok (.iaload, 1) := by decide +kernel
theorem dX1_countOn_18 : decode cX1_countOn 18 = .ok (.iload_n 1, 1) := by decide +kernel
theorem dX1_countOn_19 : decode cX1_countOn 19 = .ok (.if_icmp .ne 6, 3) := by decide +kernel
theorem dX1_countOn_22 : decode cX1_countOn 22 = .ok (.iinc 2 1, 3) := by decide +kernel
theorem dX1_countOn_25 : decode cX1_countOn 25 = .ok (.iinc 3 1, 3) := by decide +kernel
theorem dX1_countOn_28 : decode cX1_countOn 28 = .ok (.goto (-24), 3) := by decide +kernel
theorem dX1_countOn_31 : decode cX1_countOn 31 = .ok (.iload_n 2, 1) := by decide +kernel
theorem dX1_countOn_32 : decode cX1_countOn 32 = .ok (.ireturn, 1) := by decide +kernel
theorem dX1_frayAt_0 : decode cX1_frayAt 0 = .ok (.aload_n 0, 1) := by decide +kernel
theorem dX1_frayAt_1 : decode cX1_frayAt 1 = .ok (.iload_n 1, 1) := by decide +kernel
theorem dX1_frayAt_2 : decode cX1_frayAt 2 = .ok (.invokevirtual 52, 3) := by decide +kernel
theorem dX1_frayAt_5 : decode cX1_frayAt 5 = .ok (.ifCond .eq 12, 3) := by decide +kernel
theorem dX1_frayAt_8 : decode cX1_frayAt 8 = .ok (.aload_n 0, 1) := by decide +kernel
theorem dX1_frayAt_9 : decode cX1_frayAt 9 = .ok (.getfield 36, 3) := by decide +kernel
theorem dX1_frayAt_12 : decode cX1_frayAt 12 = .ok (.iload_n 1, 1) := by decide +kernel
theorem dX1_frayAt_13 : decode cX1_frayAt 13 = .ok (.iaload, 1) := by decide +kernel
theorem dX1_frayAt_14 : decode cX1_frayAt 14 = .ok (.goto 11, 3) := by decide +kernel
theorem dX1_frayAt_17 : decode cX1_frayAt 17 = .ok (.iload_n 2, 1) := by decide +kernel
theorem dX1_frayAt_18 : decode cX1_frayAt 18 = .ok (.aload_n 0, 1) := by decide +kernel
theorem dX1_frayAt_19 : decode cX1_frayAt 19 = .ok (.getfield 30, 3) := by decide +kernel
theorem dX1_frayAt_22 : decode cX1_frayAt 22 = .ok (.iload_n 1, 1) := by decide +kernel
theorem dX1_frayAt_23 : decode cX1_frayAt 23 = .ok (.iaload, 1) := by decide +kernel
theorem dX1_frayAt_24 : decode cX1_frayAt 24 = .ok (.isub, 1) := by decide +kernel
theorem dX1_frayAt_25 : decode cX1_frayAt 25 = .ok (.istore_n 3, 1) := by decide +kernel
theorem dX1_frayAt_26 : decode cX1_frayAt 26 = .ok (.iconst 0, 1) := by decide +kernel
theorem dX1_frayAt_27 : decode cX1_frayAt 27 = .ok (.iload_n 3, 1) := by decide +kernel
theorem dX1_frayAt_28 : decode cX1_frayAt 28 = .ok (.aload_n 0, 1) := by decide +kernel
theorem dX1_frayAt_29 : decode cX1_frayAt 29 = .ok (.getfield 33, 3) := by decide +kernel
theorem dX1_frayAt_32 : decode cX1_frayAt 32 = .ok (.iload_n 1, 1) := by decide +kernel
theorem dX1_frayAt_33 : decode cX1_frayAt 33 = .ok (.iaload, 1) := by decide +kernel
theorem dX1_frayAt_34 : decode cX1_frayAt 34 = .ok (.isub, 1) := by decide +kernel
theorem dX1_frayAt_35 : decode cX1_frayAt 35 = .ok (.invokestatic 56, 3) := by decide +kernel
theorem dX1_frayAt_38 : decode cX1_frayAt 38 = .ok (.ireturn, 1) := by decide +kernel
theorem dX1_frayOfThoseIn_0 : decode cX1_frayOfThoseIn 0 = .ok (.iconst 0, 1) := by decide +kernel
theorem dX1_frayOfThoseIn_1 : decode cX1_frayOfThoseIn 1 = .ok (.istore_n 1, 1) := by decide +kernel
theorem dX1_frayOfThoseIn_2 : decode cX1_frayOfThoseIn 2 = .ok (.iconst 0, 1) := by decide +kernel
theorem dX1_frayOfThoseIn_3 : decode cX1_frayOfThoseIn 3 = .ok (.istore_n 2, 1) := by decide +kernel
theorem dX1_frayOfThoseIn_4 : decode cX1_frayOfThoseIn 4 = .ok (.iload_n 2, 1) := by decide +kernel
theorem dX1_frayOfThoseIn_5 : decode cX1_frayOfThoseIn 5 = .ok (.aload_n 0, 1) := by decide +kernel
theorem dX1_frayOfThoseIn_6 : decode cX1_frayOfThoseIn 6 = .ok (.getfield 45, 3) := by decide +kernel
theorem dX1_frayOfThoseIn_9 : decode cX1_frayOfThoseIn 9 = .ok (.if_icmp .ge 37, 3) := by decide +kernel
theorem dX1_frayOfThoseIn_12 : decode cX1_frayOfThoseIn 12 = .ok (.aload_n 0, 1) := by decide +kernel
theorem dX1_frayOfThoseIn_13 : decode cX1_frayOfThoseIn 13 = .ok (.iload_n 2, 1) := by decide +kernel
theorem dX1_frayOfThoseIn_14 : decode cX1_frayOfThoseIn 14 = .ok (.invokevirtual 52, 3) := by decide +kernel
theorem dX1_frayOfThoseIn_17 : decode cX1_frayOfThoseIn 17 = .ok (.ifCond .eq 23, 3) := by decide +kernel
theorem dX1_frayOfThoseIn_20 : decode cX1_frayOfThoseIn 20 = .ok (.iload_n 1, 1) := by decide +kernel
theorem dX1_frayOfThoseIn_21 : decode cX1_frayOfThoseIn 21 = .ok (.iconst 0, 1) := by decide +kernel
theorem dX1_frayOfThoseIn_22 : decode cX1_frayOfThoseIn 22 = .ok (.aload_n 0, 1) := by decide +kernel
theorem dX1_frayOfThoseIn_23 : decode cX1_frayOfThoseIn 23 = .ok (.getfield 36, 3) := by decide +kernel
theorem dX1_frayOfThoseIn_26 : decode cX1_frayOfThoseIn 26 = .ok (.iload_n 2, 1) := by decide +kernel
theorem dX1_frayOfThoseIn_27 : decode cX1_frayOfThoseIn 27 = .ok (.iaload, 1) := by decide +kernel
theorem dX1_frayOfThoseIn_28 : decode cX1_frayOfThoseIn 28 = .ok (.aload_n 0, 1) := by decide +kernel
theorem dX1_frayOfThoseIn_29 : decode cX1_frayOfThoseIn 29 = .ok (.getfield 33, 3) := by decide +kernel
theorem dX1_frayOfThoseIn_32 : decode cX1_frayOfThoseIn 32 = .ok (.iload_n 2, 1) := by decide +kernel
theorem dX1_frayOfThoseIn_33 : decode cX1_frayOfThoseIn 33 = .ok (.iaload, 1) := by decide +kernel
theorem dX1_frayOfThoseIn_34 : decode cX1_frayOfThoseIn 34 = .ok (.isub, 1) := by decide +kernel
theorem dX1_frayOfThoseIn_35 : decode cX1_frayOfThoseIn 35 = .ok (.invokestatic 56, 3) := by decide +kernel
theorem dX1_frayOfThoseIn_38 : decode cX1_frayOfThoseIn 38 = .ok (.iadd, 1) := by decide +kernel
theorem dX1_frayOfThoseIn_39 : decode cX1_frayOfThoseIn 39 = .ok (.istore_n 1, 1) := by decide +kernel
theorem dX1_frayOfThoseIn_40 : decode cX1_frayOfThoseIn 40 = .ok (.iinc 2 1, 3) := by decide +kernel
theorem dX1_frayOfThoseIn_43 : decode cX1_frayOfThoseIn 43 = .ok (.goto (-39), 3) := by decide +kernel
theorem dX1_frayOfThoseIn_46 : decode cX1_frayOfThoseIn 46 = .ok (.iload_n 1, 1) := by decide +kernel
theorem dX1_frayOfThoseIn_47 : decode cX1_frayOfThoseIn 47 = .ok (.ireturn, 1) := by decide +kernel
theorem dX2_init_0 : decode cX2_init 0 = .ok (.aload_n 0, 1) := by decide +kernel
theorem dX2_init_1 : decode cX2_init 1 = .ok (.invokespecial 3, 3) := by decide +kernel
theorem dX2_init_4 : decode cX2_init 4 = .ok (.aload_n 0, 1) := by decide +kernel
theorem dX2_init_5 : decode cX2_init 5 = .ok (.bipush 100, 2) := by decide +kernel
theorem dX2_init_7 : decode cX2_init 7 = .ok (.newarray .int, 2) := by decide +kernel
theorem dX2_init_9 : decode cX2_init 9 = .ok (.putfield 9, 3) := by decide +kernel
theorem dX2_init_12 : decode cX2_init 12 = .ok (.return_, 1) := by decide +kernel
theorem dX2_find_0 : decode cX2_find 0 = .ok (.aload_n 0, 1) := by decide +kernel
theorem dX2_find_1 : decode cX2_find 1 = .ok (.invokevirtual 21, 3) := by decide +kernel
theorem dX2_find_4 : decode cX2_find 4 = .ok (.iconst 0, 1) := by decide +kernel
theorem dX2_find_5 : decode cX2_find 5 = .ok (.istore 4, 2) := by decide +kernel
theorem dX2_find_7 : decode cX2_find 7 = .ok (.iload 4, 2) := by decide +kernel
theorem dX2_find_9 : decode cX2_find 9 = .ok (.aload_n 1, 1) := by decide +kernel
theorem dX2_find_10 : decode cX2_find 10 = .ok (.getfield 24, 3) := by decide +kernel
theorem dX2_find_13 : decode cX2_find 13 = .ok (.if_icmp .ge 97, 3) := by decide +kernel
theorem dX2_find_16 : decode cX2_find 16 = .ok (.aload_n 1, 1) := by decide +kernel
theorem dX2_find_17 : decode cX2_find 17 = .ok (.getfield 30, 3) := by decide +kernel
theorem dX2_find_20 : decode cX2_find 20 = .ok (.iload 4, 2) := by decide +kernel
theorem dX2_find_22 : decode cX2_find 22 = .ok (.iaload, 1) := by decide +kernel
theorem dX2_find_23 : decode cX2_find 23 = .ok (.bipush 10, 2) := by decide +kernel
theorem dX2_find_25 : decode cX2_find 25 = .ok (.imul, 1) := by decide +kernel
theorem dX2_find_26 : decode cX2_find 26 = .ok (.aload_n 1, 1) := by decide +kernel
theorem dX2_find_27 : decode cX2_find 27 = .ok (.getfield 33, 3) := by decide +kernel
theorem dX2_find_30 : decode cX2_find 30 = .ok (.iload 4, 2) := by decide +kernel
theorem dX2_find_32 : decode cX2_find 32 = .ok (.iaload, 1) := by decide +kernel
theorem dX2_find_33 : decode cX2_find 33 = .ok (.iadd, 1) := by decide +kernel
theorem dX2_find_34 : decode cX2_find 34 = .ok (.istore 5, 2) := by decide +kernel
theorem dX2_find_36 : decode cX2_find 36 = .ok (.aload_n 1, 1) := by decide +kernel
theorem dX2_find_37 : decode cX2_find 37 = .ok (.iload 4, 2) := by decide +kernel
theorem dX2_find_39 : decode cX2_find 39 = .ok (.invokevirtual 36, 3) := by decide +kernel
theorem dX2_find_42 : decode cX2_find 42 = .ok (.istore 6, 2) := by decide +kernel
theorem dX2_find_44 : decode cX2_find 44 = .ok (.iload 6, 2) := by decide +kernel
theorem dX2_find_46 : decode cX2_find 46 = .ok (.aload_n 0, 1) := by decide +kernel
theorem dX2_find_47 : decode cX2_find 47 = .ok (.getfield 9, 3) := by decide +kernel
theorem dX2_find_50 : decode cX2_find 50 = .ok (.iload 5, 2) := by decide +kernel
theorem dX2_find_52 : decode cX2_find 52 = .ok (.iaload, 1) := by decide +kernel
theorem dX2_find_53 : decode cX2_find 53 = .ok (.if_icmp .ge 51, 3) := by decide +kernel
theorem dX2_find_56 : decode cX2_find 56 = .ok (.iload_n 3, 1) := by decide +kernel
theorem dX2_find_57 : decode cX2_find 57 = .ok (.ifCond .eq 13, 3) := by decide +kernel
theorem dX2_find_60 : decode cX2_find 60 = .ok (.aload_n 1, 1) := by decide +kernel
theorem dX2_find_61 : decode cX2_find 61 = .ok (.getfield 40, 3) := by decide +kernel
theorem dX2_find_64 : decode cX2_find 64 = .ok (.iload 4, 2) := by decide +kernel
theorem dX2_find_66 : decode cX2_find 66 = .ok (.iaload, 1) := by decide +kernel
theorem dX2_find_67 : decode cX2_find 67 = .ok (.ifCond .ne 37, 3) := by decide +kernel
theorem dX2_find_70 : decode cX2_find 70 = .ok (.aload_n 0, 1) := by decide +kernel
theorem dX2_find_71 : decode cX2_find 71 = .ok (.getfield 9, 3) := by decide +kernel
theorem dX2_find_74 : decode cX2_find 74 = .ok (.iload 5, 2) := by decide +kernel
theorem dX2_find_76 : decode cX2_find 76 = .ok (.iload 6, 2) := by decide +kernel
theorem dX2_find_78 : decode cX2_find 78 = .ok (.iastore, 1) := by decide +kernel
theorem dX2_find_79 : decode cX2_find 79 = .ok (.aload_n 0, 1) := by decide +kernel
theorem dX2_find_80 : decode cX2_find 80 = .ok (.getfield 9, 3) := by decide +kernel
theorem dX2_find_83 : decode cX2_find 83 = .ok (.aload_n 1, 1) := by decide +kernel
theorem dX2_find_84 : decode cX2_find 84 = .ok (.getfield 33, 3) := by decide +kernel
theorem dX2_find_87 : decode cX2_find 87 = .ok (.iload 4, 2) := by decide +kernel
theorem dX2_find_89 : decode cX2_find 89 = .ok (.iaload, 1) := by decide +kernel
theorem dX2_find_90 : decode cX2_find 90 = .ok (.bipush 10, 2) := by decide +kernel
theorem dX2_find_92 : decode cX2_find 92 = .ok (.imul, 1) := by decide +kernel
theorem dX2_find_93 : decode cX2_find 93 = .ok (.aload_n 1, 1) := by decide +kernel
theorem dX2_find_94 : decode cX2_find 94 = .ok (.getfield 30, 3) := by decide +kernel
theorem dX2_find_97 : decode cX2_find 97 = .ok (.iload 4, 2) := by decide +kernel
theorem dX2_find_99 : decode cX2_find 99 = .ok (.iaload, 1) := by decide +kernel
theorem dX2_find_100 : decode cX2_find 100 = .ok (.iadd, 1) := by decide +kernel
theorem dX2_find_101 : decode cX2_find 101 = .ok (.iload 6, 2) := by decide +kernel
theorem dX2_find_103 : decode cX2_find 103 = .ok (.iastore, 1) := by decide +kernel
theorem dX2_find_104 : decode cX2_find 104 = .ok (.iinc 4 1, 3) := by decide +kernel
theorem dX2_find_107 : decode cX2_find 107 = .ok (.goto (-100), 3) := by decide +kernel
theorem dX2_find_110 : decode cX2_find 110 = .ok (.iconst 0, 1) := by decide +kernel
theorem dX2_find_111 : decode cX2_find 111 = .ok (.istore 4, 2) := by decide +kernel
theorem dX2_find_113 : decode cX2_find 113 = .ok (.iload 4, 2) := by decide +kernel
theorem dX2_find_115 : decode cX2_find 115 = .ok (.iload_n 2, 1) := by decide +kernel
theorem dX2_find_116 : decode cX2_find 116 = .ok (.if_icmp .ge 16, 3) := by decide +kernel
theorem dX2_find_119 : decode cX2_find 119 = .ok (.aload_n 0, 1) := by decide +kernel
theorem dX2_find_120 : decode cX2_find 120 = .ok (.iload 4, 2) := by decide +kernel
theorem dX2_find_122 : decode cX2_find 122 = .ok (.iload_n 2, 1) := by decide +kernel
theorem dX2_find_123 : decode cX2_find 123 = .ok (.invokevirtual 43, 3) := by decide +kernel
theorem dX2_find_126 : decode cX2_find 126 = .ok (.iinc 4 1, 3) := by decide +kernel
theorem dX2_find_129 : decode cX2_find 129 = .ok (.goto (-16), 3) := by decide +kernel
theorem dX2_find_132 : decode cX2_find 132 = .ok (.return_, 1) := by decide +kernel
theorem dX2_clear_0 : decode cX2_clear 0 = .ok (.iconst 0, 1) := by decide +kernel
theorem dX2_clear_1 : decode cX2_clear 1 = .ok (.istore_n 1, 1) := by decide +kernel
theorem dX2_clear_2 : decode cX2_clear 2 = .ok (.iload_n 1, 1) := by decide +kernel
theorem dX2_clear_3 : decode cX2_clear 3 = .ok (.bipush 10, 2) := by decide +kernel
theorem dX2_clear_5 : decode cX2_clear 5 = .ok (.if_icmp .ge 45, 3) := by decide +kernel
theorem dX2_clear_8 : decode cX2_clear 8 = .ok (.iconst 0, 1) := by decide +kernel
