theorem dX5_init_0 : decode cX5_init 0 = .ok (.aload_n 0, 1) := by decide +kernel
theorem dX5_init_1 : decode cX5_init 1 = .ok (.invokespecial 1, 3) := by decide +kernel
theorem dX5_init_4 : decode cX5_init 4 = .ok (.aload_n 0, 1) := by decide +kernel
theorem dX5_init_5 : decode cX5_init 5 = .ok (.bipush 20, 2) := by decide +kernel
theorem dX5_init_7 : decode cX5_init 7 = .ok (.newarray .int, 2) := by decide +kernel
theorem dX5_init_9 : decode cX5_init 9 = .ok (.putfield 9, 3) := by decide +kernel
theorem dX5_init_12 : decode cX5_init 12 = .ok (.aload_n 0, 1) := by decide +kernel
theorem dX5_init_13 : decode cX5_init 13 = .ok (.bipush 20, 2) := by decide +kernel
theorem dX5_init_15 : decode cX5_init 15 = .ok (.newarray .int, 2) := by decide +kernel
theorem dX5_init_17 : decode cX5_init 17 = .ok (.putfield 13, 3) := by decide +kernel
theorem dX5_init_20 : decode cX5_init 20 = .ok (.aload_n 0, 1) := by decide +kernel
theorem dX5_init_21 : decode cX5_init 21 = .ok (.bipush 20, 2) := by decide +kernel
theorem dX5_init_23 : decode cX5_init 23 = .ok (.newarray .int, 2) := by decide +kernel
theorem dX5_init_25 : decode cX5_init 25 = .ok (.putfield 16, 3) := by decide +kernel
theorem dX5_init_28 : decode cX5_init 28 = .ok (.aload_n 0, 1) := by decide +kernel
theorem dX5_init_29 : decode cX5_init 29 = .ok (.bipush 20, 2) := by decide +kernel
theorem dX5_init_31 : decode cX5_init 31 = .ok (.newarray .int, 2) := by decide +kernel
theorem dX5_init_33 : decode cX5_init 33 = .ok (.putfield 19, 3) := by decide +kernel
theorem dX5_init_36 : decode cX5_init 36 = .ok (.aload_n 0, 1) := by decide +kernel
theorem dX5_init_37 : decode cX5_init 37 = .ok (.bipush 12, 2) := by decide +kernel
theorem dX5_init_39 : decode cX5_init 39 = .ok (.newarray .int, 2) := by decide +kernel
theorem dX5_init_41 : decode cX5_init 41 = .ok (.putfield 22, 3) := by decide +kernel
theorem dX5_init_44 : decode cX5_init 44 = .ok (.aload_n 0, 1) := by decide +kernel
theorem dX5_init_45 : decode cX5_init 45 = .ok (.bipush 12, 2) := by decide +kernel
theorem dX5_init_47 : decode cX5_init 47 = .ok (.newarray .int, 2) := by decide +kernel
theorem dX5_init_49 : decode cX5_init 49 = .ok (.putfield 25, 3) := by decide +kernel
theorem dX5_init_52 : decode cX5_init 52 = .ok (.aload_n 0, 1) := by decide +kernel
theorem dX5_init_53 : decode cX5_init 53 = .ok (.bipush 12, 2) := by decide +kernel
theorem dX5_init_55 : decode cX5_init 55 = .ok (.newarray .int, 2) := by decide +kernel
theorem dX5_init_57 : decode cX5_init 57 = .ok (.putfield 28, 3) := by decide +kernel
theorem dX5_init_60 : decode cX5_init 60 = .ok (.aload_n 0, 1) := by decide +kernel
theorem dX5_init_61 : decode cX5_init 61 = .ok (.sipush 133, 3) := by decide +kernel
theorem dX5_init_64 : decode cX5_init 64 = .ok (.newarray .int, 2) := by decide +kernel
theorem dX5_init_66 : decode cX5_init 66 = .ok (.putfield 31, 3) := by decide +kernel
theorem dX5_init_69 : decode cX5_init 69 = .ok (.aload_n 0, 1) := by decide +kernel
theorem dX5_init_70 : decode cX5_init 70 = .ok (.sipush 133, 3) := by decide +kernel
theorem dX5_init_73 : decode cX5_init 73 = .ok (.newarray .int, 2) := by decide +kernel
theorem dX5_init_75 : decode cX5_init 75 = .ok (.putfield 34, 3) := by decide +kernel
theorem dX5_init_78 : decode cX5_init 78 = .ok (.aload_n 0, 1) := by decide +kernel
theorem dX5_init_79 : decode cX5_init 79 = .ok (.bipush 10, 2) := by decide +kernel
theorem dX5_init_81 : decode cX5_init 81 = .ok (.newarray .int, 2) := by decide +kernel
theorem dX5_init_83 : decode cX5_init 83 = .ok (.putfield 37, 3) := by decide +kernel
theorem dX5_init_86 : decode cX5_init 86 = .ok (.return_, 1) := by decide +kernel
theorem dX5_thrown_0 : decode cX5_thrown 0 = .ok (.aload_n 0, 1) := by decide +kernel
theorem dX5_thrown_1 : decode cX5_thrown 1 = .ok (.getfield 40, 3) := by decide +kernel
theorem dX5_thrown_4 : decode cX5_thrown 4 = .ok (.ireturn, 1) := by decide +kernel
theorem dX5_fail_0 : decode cX5_fail 0 = .ok (.aload_n 0, 1) := by decide +kernel
theorem dX5_fail_1 : decode cX5_fail 1 = .ok (.iload_n 1, 1) := by decide +kernel
theorem dX5_fail_2 : decode cX5_fail 2 = .ok (.putfield 40, 3) := by decide +kernel
theorem dX5_fail_5 : decode cX5_fail 5 = .ok (.iconst 0, 1) := by decide +kernel
theorem dX5_fail_6 : decode cX5_fail 6 = .ok (.ireturn, 1) := by decide +kernel
theorem dX5_told_0 : decode cX5_told 0 = .ok (.aload_n 0, 1) := by decide +kernel
theorem dX5_told_1 : decode cX5_told 1 = .ok (.iconst 0, 1) := by decide +kernel
theorem dX5_told_2 : decode cX5_told 2 = .ok (.putfield 40, 3) := by decide +kernel
theorem dX5_told_5 : decode cX5_told 5 = .ok (.iload_n 1, 1) := by decide +kernel
theorem dX5_told_6 : decode cX5_told 6 = .ok (.ireturn, 1) := by decide +kernel
theorem dX5_isIn_0 : decode cX5_isIn 0 = .ok (.iload_n 0, 1) := by decide +kernel
theorem dX5_isIn_1 : decode cX5_isIn 1 = .ok (.iload_n 1, 1) := by decide +kernel
theorem dX5_isIn_2 : decode cX5_isIn 2 = .ok (.if_icmp .lt 12, 3) := by decide +kernel
theorem dX5_isIn_5 : decode cX5_isIn 5 = .ok (.iload_n 0, 1) := by decide +kernel
theorem dX5_isIn_6 : decode cX5_isIn 6 = .ok (.iload_n 2, 1) := by decide +kernel
theorem dX5_isIn_7 : decode cX5_isIn 7 = .ok (.if_icmp .gt 7, 3) := by decide +kernel
theorem dX5_isIn_10 : decode cX5_isIn 10 = .ok (.iconst 1, 1) := by decide +kernel
theorem dX5_isIn_11 : decode cX5_isIn 11 = .ok (.goto 4, 3) := by decide +kernel
theorem dX5_isIn_14 : decode cX5_isIn 14 = .ok (.iconst 0, 1) := by decide +kernel
theorem dX5_isIn_15 : decode cX5_isIn 15 = .ok (.ireturn, 1) := by decide +kernel
theorem dX5_isCrossing_0 : decode cX5_isCrossing 0 = .ok (.iload_n 1, 1) := by decide +kernel
theorem dX5_isCrossing_1 : decode cX5_isCrossing 1 = .ok (.iconst 0, 1) := by decide +kernel
theorem dX5_isCrossing_2 : decode cX5_isCrossing 2 = .ok (.aload_n 0, 1) := by decide +kernel
theorem dX5_isCrossing_3 : decode cX5_isCrossing 3 = .ok (.getfield 44, 3) := by decide +kernel
theorem dX5_isCrossing_6 : decode cX5_isCrossing 6 = .ok (.iconst 1, 1) := by decide +kernel
theorem dX5_isCrossing_7 : decode cX5_isCrossing 7 = .ok (.isub, 1) := by decide +kernel
theorem dX5_isCrossing_8 : decode cX5_isCrossing 8 = .ok (.invokestatic 47, 3) := by decide +kernel
theorem dX5_isCrossing_11 : decode cX5_isCrossing 11 = .ok (.ireturn, 1) := by decide +kernel
theorem dX5_isRoad_0 : decode cX5_isRoad 0 = .ok (.iload_n 1, 1) := by decide +kernel
theorem dX5_isRoad_1 : decode cX5_isRoad 1 = .ok (.iconst 0, 1) := by decide +kernel
theorem dX5_isRoad_2 : decode cX5_isRoad 2 = .ok (.aload_n 0, 1) := by decide +kernel
theorem dX5_isRoad_3 : decode cX5_isRoad 3 = .ok (.getfield 51, 3) := by decide +kernel
theorem dX5_isRoad_6 : decode cX5_isRoad 6 = .ok (.iconst 1, 1) := by decide +kernel
theorem dX5_isRoad_7 : decode cX5_isRoad 7 = .ok (.isub, 1) := by decide +kernel
theorem dX5_isRoad_8 : decode cX5_isRoad 8 = .ok (.invokestatic 47, 3) := by decide +kernel
theorem dX5_isRoad_11 : decode cX5_isRoad 11 = .ok (.ireturn, 1) := by decide +kernel
theorem dX5_isTourist_0 : decode cX5_isTourist 0 = .ok (.iload_n 1, 1) := by decide +kernel
theorem dX5_isTourist_1 : decode cX5_isTourist 1 = .ok (.iconst 0, 1) := by decide +kernel
theorem dX5_isTourist_2 : decode cX5_isTourist 2 = .ok (.aload_n 0, 1) := by decide +kernel
theorem dX5_isTourist_3 : decode cX5_isTourist 3 = .ok (.getfield 54, 3) := by decide +kernel
theorem dX5_isTourist_6 : decode cX5_isTourist 6 = .ok (.iconst 1, 1) := by decide +kernel
theorem dX5_isTourist_7 : decode cX5_isTourist 7 = .ok (.isub, 1) := by decide +kernel
theorem dX5_isTourist_8 : decode cX5_isTourist 8 = .ok (.invokestatic 47, 3) := by decide +kernel
theorem dX5_isTourist_11 : decode cX5_isTourist 11 = .ok (.ireturn, 1) := by decide +kernel
theorem dX5_ro_0 : decode cX5_ro 0 = .ok (.aload_n 0, 1) := by decide +kernel
theorem dX5_ro_1 : decode cX5_ro 1 = .ok (.getfield 31, 3) := by decide +kernel
theorem dX5_ro_4 : decode cX5_ro 4 = .ok (.iconst 1, 1) := by decide +kernel
theorem dX5_ro_5 : decode cX5_ro 5 = .ok (.iconst 3, 1) := by decide +kernel
theorem dX5_ro_6 : decode cX5_ro 6 = .ok (.iload_n 1, 1) := by decide +kernel
theorem dX5_ro_7 : decode cX5_ro 7 = .ok (.imul, 1) := by decide +kernel
theorem dX5_ro_8 : decode cX5_ro 8 = .ok (.iadd, 1) := by decide +kernel
theorem dX5_ro_9 : decode cX5_ro 9 = .ok (.iload_n 2, 1) := by decide +kernel
theorem dX5_ro_10 : decode cX5_ro 10 = .ok (.iadd, 1) := by decide +kernel
theorem dX5_ro_11 : decode cX5_ro 11 = .ok (.iaload, 1) := by decide +kernel
theorem dX5_ro_12 : decode cX5_ro 12 = .ok (.ireturn, 1) := by decide +kernel
theorem dX5_lay_0 : decode cX5_lay 0 = .ok (.aload_n 0, 1) := by decide +kernel
theorem dX5_lay_1 : decode cX5_lay 1 = .ok (.getfield 31, 3) := by decide +kernel
theorem dX5_lay_4 : decode cX5_lay 4 = .ok (.iconst 1, 1) := by decide +kernel
theorem dX5_lay_5 : decode cX5_lay 5 = .ok (.iconst 3, 1) := by decide +kernel
theorem dX5_lay_6 : decode cX5_lay 6 = .ok (.iload_n 1, 1) := by decide +kernel
theorem dX5_lay_7 : decode cX5_lay 7 = .ok (.imul, 1) := by decide +kernel
theorem dX5_lay_8 : decode cX5_lay 8 = .ok (.iadd, 1) := by decide +kernel
theorem dX5_lay_9 : decode cX5_lay 9 = .ok (.iload_n 2, 1) := by decide +kernel
theorem dX5_lay_10 : decode cX5_lay 10 = .ok (.iadd, 1) := by decide +kernel
theorem dX5_lay_11 : decode cX5_lay 11 = .ok (.iload_n 3, 1) := by decide +kernel
theorem dX5_lay_12 : decode cX5_lay 12 = .ok (.iastore, 1) := by decide +kernel
theorem dX5_lay_13 : decode cX5_lay 13 = .ok (.return_, 1) := by decide +kernel
theorem dX5_to_0 : decode cX5_to 0 = .ok (.aload_n 0, 1) := by decide +kernel
theorem dX5_to_1 : decode cX5_to 1 = .ok (.getfield 31, 3) := by decide +kernel
theorem dX5_to_4 : decode cX5_to 4 = .ok (.bipush 61, 2) := by decide +kernel
theorem dX5_to_6 : decode cX5_to 6 = .ok (.bipush 6, 2) := by decide +kernel
theorem dX5_to_8 : decode cX5_to 8 = .ok (.iload_n 1, 1) := by decide +kernel
theorem dX5_to_9 : decode cX5_to 9 = .ok (.imul, 1) := by decide +kernel
theorem dX5_to_10 : decode cX5_to 10 = .ok (.iadd, 1) := by decide +kernel
theorem dX5_to_11 : decode cX5_to 11 = .ok (.iload_n 2, 1) := by decide +kernel
theorem dX5_to_12 : decode cX5_to 12 = .ok (.iadd, 1) := by decide +kernel
theorem dX5_to_13 : decode cX5_to 13 = .ok (.iaload, 1) := by decide +kernel
theorem dX5_to_14 : decode cX5_to 14 = .ok (.ireturn, 1) := by decide +kernel
theorem dX5_let_0 : decode cX5_let 0 = .ok (.aload_n 0, 1) := by decide +kernel
theorem dX5_let_1 : decode cX5_let 1 = .ok (.getfield 31, 3) := by decide +kernel
theorem dX5_let_4 : decode cX5_let 4 = .ok (.bipush 61, 2) := by decide +kernel
theorem dX5_let_6 : decode cX5_let 6 = .ok (.bipush 6, 2) := by decide +kernel
theorem dX5_let_8 : decode cX5_let 8 = .ok (.iload_n 1, 1) := by decide +kernel
theorem dX5_let_9 : decode cX5_let 9 = .ok (.imul, 1) := by decide +kernel
theorem dX5_let_10 : decode cX5_let 10 = .ok (.iadd, 1) := by decide +kernel
theorem dX5_let_11 : decode cX5_let 11 = .ok (.iload_n 2, 1) := by decide +kernel
theorem dX5_let_12 : decode cX5_let 12 = .ok (.iadd, 1) := by decide +kernel
theorem dX5_let_13 : decode cX5_let 13 = .ok (.iload_n 3, 1) := by decide +kernel
theorem dX5_let_14 : decode cX5_let 14 = .ok (.iastore, 1) := by decide +kernel
theorem dX5_let_15 : decode cX5_let 15 = .ok (.return_, 1) := by decide +kernel
theorem dX5_keep_0 : decode cX5_keep 0 = .ok (.aload_n 0, 1) := by decide +kernel
theorem dX5_keep_1 : decode cX5_keep 1 = .ok (.getfield 31, 3) := by decide +kernel
theorem dX5_keep_4 : decode cX5_keep 4 = .ok (.iconst 0, 1) := by decide +kernel
theorem dX5_keep_5 : decode cX5_keep 5 = .ok (.aload_n 0, 1) := by decide +kernel
theorem dX5_keep_6 : decode cX5_keep 6 = .ok (.getfield 34, 3) := by decide +kernel
theorem dX5_keep_9 : decode cX5_keep 9 = .ok (.iconst 0, 1) := by decide +kernel
theorem dX5_keep_10 : decode cX5_keep 10 = .ok (.sipush 133, 3) := by decide +kernel
theorem dX5_keep_13 : decode cX5_keep 13 = .ok (.invokestatic 57, 3) := by decide +kernel
theorem dX5_keep_16 : decode cX5_keep 16 = .ok (.return_, 1) := by decide +kernel
theorem dX5_bringBack_0 : decode cX5_bringBack 0 = .ok (.aload_n 0, 1) := by decide +kernel
theorem dX5_bringBack_1 : decode cX5_bringBack 1 = .ok (.getfield 34, 3) := by decide +kernel
theorem dX5_bringBack_4 : decode cX5_bringBack 4 = .ok (.iconst 0, 1) := by decide +kernel
theorem dX5_bringBack_5 : decode cX5_bringBack 5 = .ok (.aload_n 0, 1) := by decide +kernel
theorem dX5_bringBack_6 : decode cX5_bringBack 6 = .ok (.getfield 31, 3) := by decide +kernel
theorem dX5_bringBack_9 : decode cX5_bringBack 9 = .ok (.iconst 0, 1) := by decide +kernel
theorem dX5_bringBack_10 : decode cX5_bringBack 10 = .ok (.sipush 133, 3) := by decide +kernel
theorem dX5_bringBack_13 : decode cX5_bringBack 13 = .ok (.invokestatic 57, 3) := by decide +kernel
theorem dX5_bringBack_16 : decode cX5_bringBack 16 = .ok (.return_, 1) := by decide +kernel
theorem dX5_isOpen_0 : decode cX5_isOpen 0 = .ok (.aload_n 0, 1) := by decide +kernel
theorem dX5_isOpen_1 : decode cX5_isOpen 1 = .ok (.iload_n 1, 1) := by decide +kernel
theorem dX5_isOpen_2 : decode cX5_isOpen 2 = .ok (.iconst 0, 1) := by decide +kernel
theorem dX5_isOpen_3 : decode cX5_isOpen 3 = .ok (.invokevirtual 63, 3) := by decide +kernel
theorem dX5_isOpen_6 : decode cX5_isOpen 6 = .ok (.ifCond .ne 7, 3) := by decide +kernel
theorem dX5_isOpen_9 : decode cX5_isOpen 9 = .ok (.iconst 1, 1) := by decide +kernel
theorem dX5_isOpen_10 : decode cX5_isOpen 10 = .ok (.goto 4, 3) := by decide +kernel
theorem dX5_isOpen_13 : decode cX5_isOpen 13 = .ok (.iconst 0, 1) := by decide +kernel
theorem dX5_isOpen_14 : decode cX5_isOpen 14 = .ok (.ireturn, 1) := by decide +kernel
theorem dX5_longNow_0 : decode cX5_longNow 0 = .ok (.aload_n 0, 1) := by decide +kernel
theorem dX5_longNow_1 : decode cX5_longNow 1 = .ok (.getfield 16, 3) := by decide +kernel
theorem dX5_longNow_4 : decode cX5_longNow 4 = .ok (.iload_n 1, 1) := by decide +kernel
theorem dX5_longNow_5 : decode cX5_longNow 5 = .ok (.iaload, 1) := by decide +kernel
theorem dX5_longNow_6 : decode cX5_longNow 6 = .ok (.aload_n 0, 1) := by decide +kernel
theorem dX5_longNow_7 : decode cX5_longNow 7 = .ok (.iload_n 1, 1) := by decide +kernel
theorem dX5_longNow_8 : decode cX5_longNow 8 = .ok (.iconst 2, 1) := by decide +kernel
theorem dX5_longNow_9 : decode cX5_longNow 9 = .ok (.invokevirtual 63, 3) := by decide +kernel
theorem dX5_longNow_12 : decode cX5_longNow 12 = .ok (.iadd, 1) := by decide +kernel
theorem dX5_longNow_13 : decode cX5_longNow 13 = .ok (.ireturn, 1) := by decide +kernel
theorem dX5_on_0 : decode cX5_on 0 = .ok (.iconst 0, 1) := by decide +kernel
theorem dX5_on_1 : decode cX5_on 1 = .ok (.istore_n 2, 1) := by decide +kernel
theorem dX5_on_2 : decode cX5_on 2 = .ok (.iconst 0, 1) := by decide +kernel
theorem dX5_on_3 : decode cX5_on 3 = .ok (.istore_n 3, 1) := by decide +kernel
theorem dX5_on_4 : decode cX5_on 4 = .ok (.iload_n 3, 1) := by decide +kernel
theorem dX5_on_5 : decode cX5_on 5 = .ok (.aload_n 0, 1) := by decide +kernel
theorem dX5_on_6 : decode cX5_on 6 = .ok (.getfield 54, 3) := by decide +kernel
theorem dX5_on_9 : decode cX5_on 9 = .ok (.if_icmp .ge 27, 3) := by decide +kernel
theorem dX5_on_12 : decode cX5_on 12 = .ok (.iload_n 2, 1) := by decide +kernel
theorem dX5_on_13 : decode cX5_on 13 = .ok (.aload_n 0, 1) := by decide +kernel
theorem dX5_on_14 : decode cX5_on 14 = .ok (.iload_n 3, 1) := by decide +kernel
theorem dX5_on_15 : decode cX5_on 15 = .ok (.iconst 1, 1) := by decide +kernel
theorem dX5_on_16 : decode cX5_on 16 = .ok (.invokevirtual 67, 3) := by decide +kernel
theorem dX5_on_19 : decode cX5_on 19 = .ok (.iload_n 1, 1) := by decide +kernel
theorem dX5_on_20 : decode cX5_on 20 = .ok (.if_icmp .ne 7, 3) := by decide +kernel
theorem dX5_on_23 : decode cX5_on 23 = .ok (.iconst 1, 1) := by decide +kernel
theorem dX5_on_24 : decode cX5_on 24 = .ok (.goto 4, 3) := by decide +kernel
theorem dX5_on_27 : decode cX5_on 27 = .ok (.iconst 0, 1) := by decide +kernel
theorem dX5_on_28 : decode cX5_on 28 = .ok (.iadd, 1) := by decide +kernel
theorem dX5_on_29 : decode cX5_on 29 = .ok (.istore_n 2, 1) := by decide +kernel
theorem dX5_on_30 : decode cX5_on 30 = .ok (.iinc 3 1, 3) := by decide +kernel
theorem dX5_on_33 : decode cX5_on 33 = .ok (.goto (-29), 3) := by decide +kernel
theorem dX5_on_36 : decode cX5_on 36 = .ok (.iload_n 2, 1) := by decide +kernel
theorem dX5_on_37 : decode cX5_on 37 = .ok (.ireturn, 1) := by decide +kernel
theorem dX5_measure_0 : decode cX5_measure 0 = .ok (.iconst 0, 1) := by decide +kernel
theorem dX5_measure_1 : decode cX5_measure 1 = .ok (.istore_n 3, 1) := by decide +kernel
theorem dX5_measure_2 : decode cX5_measure 2 = .ok (.iload_n 3, 1) := by decide +kernel
theorem dX5_measure_3 : decode cX5_measure 3 = .ok (.aload_n 0, 1) := by decide +kernel
theorem dX5_measure_4 : decode cX5_measure 4 = .ok (.getfield 44, 3) := by decide +kernel
theorem dX5_measure_7 : decode cX5_measure 7 = .ok (.if_icmp .ge 27, 3) := by decide +kernel
theorem dX5_measure_10 : decode cX5_measure 10 = .ok (.aload_n 0, 1) := by decide +kernel
theorem dX5_measure_11 : decode cX5_measure 11 = .ok (.getfield 37, 3) := by decide +kernel
theorem dX5_measure_14 : decode cX5_measure 14 = .ok (.iload_n 3, 1) := by decide +kernel
theorem dX5_measure_15 : decode cX5_measure 15 = .ok (.iload_n 3, 1) := by decide +kernel
theorem dX5_measure_16 : decode cX5_measure 16 = .ok (.iload_n 1, 1) := by decide +kernel
theorem dX5_measure_17 : decode cX5_measure 17 = .ok (.if_icmp .ne 7, 3) := by decide +kernel
theorem dX5_measure_20 : decode cX5_measure 20 = .ok (.iconst 0, 1) := by decide +kernel
theorem dX5_measure_21 : decode cX5_measure 21 = .ok (.goto 6, 3) := by decide +kernel
theorem dX5_measure_24 : decode cX5_measure 24 = .ok (.sipush 9999, 3) := by decide +kernel
theorem dX5_measure_27 : decode cX5_measure 27 = .ok (.iastore, 1) := by decide +kernel
theorem dX5_measure_28 : decode cX5_measure 28 = .ok (.iinc 3 1, 3) := by decide +kernel
theorem dX5_measure_31 : decode cX5_measure 31 = .ok (.goto (-29), 3) := by decide +kernel
theorem dX5_measure_34 : decode cX5_measure 34 = .ok (.iconst 1, 1) := by decide +kernel
theorem dX5_measure_35 : decode cX5_measure 35 = .ok (.istore_n 3, 1) := by decide +kernel
theorem dX5_measure_36 : decode cX5_measure 36 = .ok (.iload_n 3, 1) := by decide +kernel
theorem dX5_measure_37 : decode cX5_measure 37 = .ok (.ifCond .eq 150, 3) := by decide +kernel
theorem dX5_measure_40 : decode cX5_measure 40 = .ok (.iconst 0, 1) := by decide +kernel
theorem dX5_measure_41 : decode cX5_measure 41 = .ok (.istore_n 3, 1) := by decide +kernel
theorem dX5_measure_42 : decode cX5_measure 42 = .ok (.iconst 0, 1) := by decide +kernel
theorem dX5_measure_43 : decode cX5_measure 43 = .ok (.istore 4, 2) := by decide +kernel
theorem dX5_measure_45 : decode cX5_measure 45 = .ok (.iload 4, 2) := by decide +kernel
theorem dX5_measure_47 : decode cX5_measure 47 = .ok (.aload_n 0, 1) := by decide +kernel
theorem dX5_measure_48 : decode cX5_measure 48 = .ok (.getfield 51, 3) := by decide +kernel
theorem dX5_measure_51 : decode cX5_measure 51 = .ok (.if_icmp .ge 133, 3) := by decide +kernel
theorem dX5_measure_54 : decode cX5_measure 54 = .ok (.iload_n 2, 1) := by decide +kernel
theorem dX5_measure_55 : decode cX5_measure 55 = .ok (.ifCond .ne 15, 3) := by decide +kernel
theorem dX5_measure_58 : decode cX5_measure 58 = .ok (.aload_n 0, 1) := by decide +kernel
theorem dX5_measure_59 : decode cX5_measure 59 = .ok (.iload 4, 2) := by decide +kernel
theorem dX5_measure_61 : decode cX5_measure 61 = .ok (.invokevirtual 70, 3) := by decide +kernel
theorem dX5_measure_64 : decode cX5_measure 64 = .ok (.ifCond .ne 6, 3) := by decide +kernel
theorem dX5_measure_67 : decode cX5_measure 67 = .ok (.goto 111, 3) := by decide +kernel
theorem dX5_measure_70 : decode cX5_measure 70 = .ok (.aload_n 0, 1) := by decide +kernel
theorem dX5_measure_71 : decode cX5_measure 71 = .ok (.iload 4, 2) := by decide +kernel
theorem dX5_measure_73 : decode cX5_measure 73 = .ok (.invokevirtual 74, 3) := by decide +kernel
theorem dX5_measure_76 : decode cX5_measure 76 = .ok (.aload_n 0, 1) := by decide +kernel
theorem dX5_measure_77 : decode cX5_measure 77 = .ok (.getfield 37, 3) := by decide +kernel
theorem dX5_measure_80 : decode cX5_measure 80 = .ok (.aload_n 0, 1) := by decide +kernel
theorem dX5_measure_81 : decode cX5_measure 81 = .ok (.getfield 9, 3) := by decide +kernel
theorem dX5_measure_84 : decode cX5_measure 84 = .ok (.iload 4, 2) := by decide +kernel
theorem dX5_measure_86 : decode cX5_measure 86 = .ok (.iaload, 1) := by decide +kernel
theorem dX5_measure_87 : decode cX5_measure 87 = .ok (.iaload, 1) := by decide +kernel
theorem dX5_measure_88 : decode cX5_measure 88 = .ok (.aload_n 0, 1) := by decide +kernel
theorem dX5_measure_89 : decode cX5_measure 89 = .ok (.getfield 37, 3) := by decide +kernel
theorem dX5_measure_92 : decode cX5_measure 92 = .ok (.aload_n 0, 1) := by decide +kernel
theorem dX5_measure_93 : decode cX5_measure 93 = .ok (.getfield 13, 3) := by decide +kernel
theorem dX5_measure_96 : decode cX5_measure 96 = .ok (.iload 4, 2) := by decide +kernel
theorem dX5_measure_98 : decode cX5_measure 98 = .ok (.iaload, 1) := by decide +kernel
theorem dX5_measure_99 : decode cX5_measure 99 = .ok (.iaload, 1) := by decide +kernel
theorem dX5_measure_100 : decode cX5_measure 100 = .ok (.invokestatic 78, 3) := by decide +kernel
theorem dX5_measure_103 : decode cX5_measure 103 = .ok (.iadd, 1) := by decide +kernel
theorem dX5_measure_104 : decode cX5_measure 104 = .ok (.istore 5, 2) := by decide +kernel
theorem dX5_measure_106 : decode cX5_measure 106 = .ok (.aload_n 0, 1) := by decide +kernel
theorem dX5_measure_107 : decode cX5_measure 107 = .ok (.getfield 37, 3) := by decide +kernel
theorem dX5_measure_110 : decode cX5_measure 110 = .ok (.aload_n 0, 1) := by decide +kernel
theorem dX5_measure_111 : decode cX5_measure 111 = .ok (.getfield 9, 3) := by decide +kernel
theorem dX5_measure_114 : decode cX5_measure 114 = .ok (.iload 4, 2) := by decide +kernel
theorem dX5_measure_116 : decode cX5_measure 116 = .ok (.iaload, 1) := by decide +kernel
theorem dX5_measure_117 : decode cX5_measure 117 = .ok (.iaload, 1) := by decide +kernel
theorem dX5_measure_118 : decode cX5_measure 118 = .ok (.aload_n 0, 1) := by decide +kernel
theorem dX5_measure_119 : decode cX5_measure 119 = .ok (.getfield 37, 3) := by decide +kernel
theorem dX5_measure_122 : decode cX5_measure 122 = .ok (.aload_n 0, 1) := by decide +kernel
theorem dX5_measure_123 : decode cX5_measure 123 = .ok (.getfield 13, 3) := by decide +kernel
theorem dX5_measure_126 : decode cX5_measure 126 = .ok (.iload 4, 2) := by decide +kernel
theorem dX5_measure_128 : decode cX5_measure 128 = .ok (.iaload, 1) := by decide +kernel
theorem dX5_measure_129 : decode cX5_measure 129 = .ok (.iaload, 1) := by decide +kernel
theorem dX5_measure_130 : decode cX5_measure 130 = .ok (.if_icmp .le 13, 3) := by decide +kernel
theorem dX5_measure_133 : decode cX5_measure 133 = .ok (.aload_n 0, 1) := by decide +kernel
theorem dX5_measure_134 : decode cX5_measure 134 = .ok (.getfield 9, 3) := by decide +kernel
theorem dX5_measure_137 : decode cX5_measure 137 = .ok (.iload 4, 2) := by decide +kernel
theorem dX5_measure_139 : decode cX5_measure 139 = .ok (.iaload, 1) := by decide +kernel
theorem dX5_measure_140 : decode cX5_measure 140 = .ok (.goto 10, 3) := by decide +kernel
theorem dX5_measure_143 : decode cX5_measure 143 = .ok (.aload_n 0, 1) := by decide +kernel
theorem dX5_measure_144 : decode cX5_measure 144 = .ok (.getfield 13, 3) := by decide +kernel
theorem dX5_measure_147 : decode cX5_measure 147 = .ok (.iload 4, 2) := by decide +kernel
theorem dX5_measure_149 : decode cX5_measure 149 = .ok (.iaload, 1) := by decide +kernel
theorem dX5_measure_150 : decode cX5_measure 150 = .ok (.istore 6, 2) := by decide +kernel
theorem dX5_measure_152 : decode cX5_measure 152 = .ok (.iload 5, 2) := by decide +kernel
theorem dX5_measure_154 : decode cX5_measure 154 = .ok (.aload_n 0, 1) := by decide +kernel
theorem dX5_measure_155 : decode cX5_measure 155 = .ok (.getfield 37, 3) := by decide +kernel
theorem dX5_measure_158 : decode cX5_measure 158 = .ok (.iload 6, 2) := by decide +kernel
theorem dX5_measure_160 : decode cX5_measure 160 = .ok (.iaload, 1) := by decide +kernel
theorem dX5_measure_161 : decode cX5_measure 161 = .ok (.if_icmp .lt 6, 3) := by decide +kernel
theorem dX5_measure_164 : decode cX5_measure 164 = .ok (.goto 14, 3) := by decide +kernel
theorem dX5_measure_167 : decode cX5_measure 167 = .ok (.aload_n 0, 1) := by decide +kernel
theorem dX5_measure_168 : decode cX5_measure 168 = .ok (.getfield 37, 3) := by decide +kernel
theorem dX5_measure_171 : decode cX5_measure 171 = .ok (.iload 6, 2) := by decide +kernel
theorem dX5_measure_173 : decode cX5_measure 173 = .ok (.iload 5, 2) := by decide +kernel
theorem dX5_measure_175 : decode cX5_measure 175 = .ok (.iastore, 1) := by decide +kernel
theorem dX5_measure_176 : decode cX5_measure 176 = .ok (.iconst 1, 1) := by decide +kernel
theorem dX5_measure_177 : decode cX5_measure 177 = .ok (.istore_n 3, 1) := by decide +kernel
theorem dX5_measure_178 : decode cX5_measure 178 = .ok (.iinc 4 1, 3) := by decide +kernel
theorem dX5_measure_181 : decode cX5_measure 181 = .ok (.goto (-136), 3) := by decide +kernel
theorem dX5_measure_184 : decode cX5_measure 184 = .ok (.goto (-148), 3) := by decide +kernel
theorem dX5_measure_187 : decode cX5_measure 187 = .ok (.return_, 1) := by decide +kernel
theorem dX5_apart_0 : decode cX5_apart 0 = .ok (.aload_n 0, 1) := by decide +kernel
theorem dX5_apart_1 : decode cX5_apart 1 = .ok (.iload_n 2, 1) := by decide +kernel
theorem dX5_apart_2 : decode cX5_apart 2 = .ok (.iload_n 3, 1) := by decide +kernel
theorem dX5_apart_3 : decode cX5_apart 3 = .ok (.invokevirtual 83, 3) := by decide +kernel
theorem dX5_apart_6 : decode cX5_apart 6 = .ok (.aload_n 0, 1) := by decide +kernel
theorem dX5_apart_7 : decode cX5_apart 7 = .ok (.getfield 37, 3) := by decide +kernel
theorem dX5_apart_10 : decode cX5_apart 10 = .ok (.iload_n 1, 1) := by decide +kernel
theorem dX5_apart_11 : decode cX5_apart 11 = .ok (.iaload, 1) := by decide +kernel
theorem dX5_apart_12 : decode cX5_apart 12 = .ok (.sipush 9999, 3) := by decide +kernel
theorem dX5_apart_15 : decode cX5_apart 15 = .ok (.if_icmp .lt 7, 3) := by decide +kernel
theorem dX5_apart_18 : decode cX5_apart 18 = .ok (.iconst (-1), 1) := by decide +kernel
theorem dX5_apart_19 : decode cX5_apart 19 = .ok (.goto 9, 3) := by decide +kernel
theorem dX5_apart_22 : decode cX5_apart 22 = .ok (.aload_n 0, 1) := by decide +kernel
theorem dX5_apart_23 : decode cX5_apart 23 = .ok (.getfield 37, 3) := by decide +kernel
theorem dX5_apart_26 : decode cX5_apart 26 = .ok (.iload_n 1, 1) := by decide +kernel
theorem dX5_apart_27 : decode cX5_apart 27 = .ok (.iaload, 1) := by decide +kernel
theorem dX5_apart_28 : decode cX5_apart 28 = .ok (.ireturn, 1) := by decide +kernel
theorem dX5_end_0 : decode cX5_end 0 = .ok (.aload_n 0, 1) := by decide +kernel
theorem dX5_end_1 : decode cX5_end 1 = .ok (.getfield 9, 3) := by decide +kernel
theorem dX5_end_4 : decode cX5_end 4 = .ok (.iload_n 1, 1) := by decide +kernel
theorem dX5_end_5 : decode cX5_end 5 = .ok (.iaload, 1) := by decide +kernel
theorem dX5_end_6 : decode cX5_end 6 = .ok (.iload_n 2, 1) := by decide +kernel
theorem dX5_end_7 : decode cX5_end 7 = .ok (.if_icmp .ne 12, 3) := by decide +kernel
theorem dX5_end_10 : decode cX5_end 10 = .ok (.aload_n 0, 1) := by decide +kernel
theorem dX5_end_11 : decode cX5_end 11 = .ok (.getfield 13, 3) := by decide +kernel
theorem dX5_end_14 : decode cX5_end 14 = .ok (.iload_n 1, 1) := by decide +kernel
theorem dX5_end_15 : decode cX5_end 15 = .ok (.iaload, 1) := by decide +kernel
theorem dX5_end_16 : decode cX5_end 16 = .ok (.goto 9, 3) := by decide +kernel
theorem dX5_end_19 : decode cX5_end 19 = .ok (.aload_n 0, 1) := by decide +kernel
theorem dX5_end_20 : decode cX5_end 20 = .ok (.getfield 9, 3) := by decide +kernel
theorem dX5_end_23 : decode cX5_end 23 = .ok (.iload_n 1, 1) := by decide +kernel
theorem dX5_end_24 : decode cX5_end 24 = .ok (.iaload, 1) := by decide +kernel
theorem dX5_end_25 : decode cX5_end 25 = .ok (.ireturn, 1) := by decide +kernel
theorem dX5_takes_0 : decode cX5_takes 0 = .ok (.iload_n 1, 1) := by decide +kernel
theorem dX5_takes_1 : decode cX5_takes 1 = .ok (.iload_n 2, 1) := by decide +kernel
theorem dX5_takes_2 : decode cX5_takes 2 = .ok (.if_icmp .ne 5, 3) := by decide +kernel
theorem dX5_takes_5 : decode cX5_takes 5 = .ok (.iconst (-1), 1) := by decide +kernel
theorem dX5_takes_6 : decode cX5_takes 6 = .ok (.ireturn, 1) := by decide +kernel
theorem dX5_takes_7 : decode cX5_takes 7 = .ok (.aload_n 0, 1) := by decide +kernel
theorem dX5_takes_8 : decode cX5_takes 8 = .ok (.iload_n 2, 1) := by decide +kernel
theorem dX5_takes_9 : decode cX5_takes 9 = .ok (.iconst 0, 1) := by decide +kernel
theorem dX5_takes_10 : decode cX5_takes 10 = .ok (.invokevirtual 83, 3) := by decide +kernel
theorem dX5_takes_13 : decode cX5_takes 13 = .ok (.iconst (-1), 1) := by decide +kernel
theorem dX5_takes_14 : decode cX5_takes 14 = .ok (.istore_n 3, 1) := by decide +kernel
theorem dX5_takes_15 : decode cX5_takes 15 = .ok (.sipush 9999, 3) := by decide +kernel
theorem dX5_takes_18 : decode cX5_takes 18 = .ok (.istore 4, 2) := by decide +kernel
theorem dX5_takes_20 : decode cX5_takes 20 = .ok (.iconst 0, 1) := by decide +kernel
theorem dX5_takes_21 : decode cX5_takes 21 = .ok (.istore 5, 2) := by decide +kernel
theorem dX5_takes_23 : decode cX5_takes 23 = .ok (.iload 5, 2) := by decide +kernel
theorem dX5_takes_25 : decode cX5_takes 25 = .ok (.aload_n 0, 1) := by decide +kernel
theorem dX5_takes_26 : decode cX5_takes 26 = .ok (.getfield 51, 3) := by decide +kernel
theorem dX5_takes_29 : decode cX5_takes 29 = .ok (.if_icmp .ge 81, 3) := by decide +kernel
theorem dX5_takes_32 : decode cX5_takes 32 = .ok (.aload_n 0, 1) := by decide +kernel
theorem dX5_takes_33 : decode cX5_takes 33 = .ok (.iload 5, 2) := by decide +kernel
theorem dX5_takes_35 : decode cX5_takes 35 = .ok (.invokevirtual 70, 3) := by decide +kernel
theorem dX5_takes_38 : decode cX5_takes 38 = .ok (.ifCond .eq 66, 3) := by decide +kernel
theorem dX5_takes_41 : decode cX5_takes 41 = .ok (.aload_n 0, 1) := by decide +kernel
theorem dX5_takes_42 : decode cX5_takes 42 = .ok (.getfield 9, 3) := by decide +kernel
theorem dX5_takes_45 : decode cX5_takes 45 = .ok (.iload 5, 2) := by decide +kernel
theorem dX5_takes_47 : decode cX5_takes 47 = .ok (.iaload, 1) := by decide +kernel
theorem dX5_takes_48 : decode cX5_takes 48 = .ok (.iload_n 1, 1) := by decide +kernel
theorem dX5_takes_49 : decode cX5_takes 49 = .ok (.if_icmp .eq 17, 3) := by decide +kernel
theorem dX5_takes_52 : decode cX5_takes 52 = .ok (.aload_n 0, 1) := by decide +kernel
theorem dX5_takes_53 : decode cX5_takes 53 = .ok (.getfield 13, 3) := by decide +kernel
theorem dX5_takes_56 : decode cX5_takes 56 = .ok (.iload 5, 2) := by decide +kernel
theorem dX5_takes_58 : decode cX5_takes 58 = .ok (.iaload, 1) := by decide +kernel
theorem dX5_takes_59 : decode cX5_takes 59 = .ok (.iload_n 1, 1) := by decide +kernel
theorem dX5_takes_60 : decode cX5_takes 60 = .ok (.if_icmp .eq 6, 3) := by decide +kernel
theorem dX5_takes_63 : decode cX5_takes 63 = .ok (.goto 41, 3) := by decide +kernel
theorem dX5_takes_66 : decode cX5_takes 66 = .ok (.aload_n 0, 1) := by decide +kernel
theorem dX5_takes_67 : decode cX5_takes 67 = .ok (.iload 5, 2) := by decide +kernel
theorem dX5_takes_69 : decode cX5_takes 69 = .ok (.invokevirtual 74, 3) := by decide +kernel
theorem dX5_takes_72 : decode cX5_takes 72 = .ok (.aload_n 0, 1) := by decide +kernel
theorem dX5_takes_73 : decode cX5_takes 73 = .ok (.getfield 37, 3) := by decide +kernel
theorem dX5_takes_76 : decode cX5_takes 76 = .ok (.aload_n 0, 1) := by decide +kernel
theorem dX5_takes_77 : decode cX5_takes 77 = .ok (.iload 5, 2) := by decide +kernel
theorem dX5_takes_79 : decode cX5_takes 79 = .ok (.iload_n 1, 1) := by decide +kernel
theorem dX5_takes_80 : decode cX5_takes 80 = .ok (.invokevirtual 87, 3) := by decide +kernel
theorem dX5_takes_83 : decode cX5_takes 83 = .ok (.iaload, 1) := by decide +kernel
theorem dX5_takes_84 : decode cX5_takes 84 = .ok (.iadd, 1) := by decide +kernel
theorem dX5_takes_85 : decode cX5_takes 85 = .ok (.istore 6, 2) := by decide +kernel
theorem dX5_takes_87 : decode cX5_takes 87 = .ok (.iload 6, 2) := by decide +kernel
theorem dX5_takes_89 : decode cX5_takes 89 = .ok (.iload 4, 2) := by decide +kernel
theorem dX5_takes_91 : decode cX5_takes 91 = .ok (.if_icmp .lt 6, 3) := by decide +kernel
theorem dX5_takes_94 : decode cX5_takes 94 = .ok (.goto 10, 3) := by decide +kernel
theorem dX5_takes_97 : decode cX5_takes 97 = .ok (.iload 5, 2) := by decide +kernel
theorem dX5_takes_99 : decode cX5_takes 99 = .ok (.istore_n 3, 1) := by decide +kernel
theorem dX5_takes_100 : decode cX5_takes 100 = .ok (.iload 6, 2) := by decide +kernel
theorem dX5_takes_102 : decode cX5_takes 102 = .ok (.istore 4, 2) := by decide +kernel
theorem dX5_takes_104 : decode cX5_takes 104 = .ok (.iinc 5 1, 3) := by decide +kernel
theorem dX5_takes_107 : decode cX5_takes 107 = .ok (.goto (-84), 3) := by decide +kernel
theorem dX5_takes_110 : decode cX5_takes 110 = .ok (.iload_n 3, 1) := by decide +kernel
theorem dX5_takes_111 : decode cX5_takes 111 = .ok (.ireturn, 1) := by decide +kernel
theorem dX5_mix_0 : decode cX5_mix 0 = .ok (.iload_n 0, 1) := by decide +kernel
theorem dX5_mix_1 : decode cX5_mix 1 = .ok (.ifCond .eq 8, 3) := by decide +kernel
theorem dX5_mix_4 : decode cX5_mix 4 = .ok (.iload_n 0, 1) := by decide +kernel
theorem dX5_mix_5 : decode cX5_mix 5 = .ok (.iload_n 1, 1) := by decide +kernel
theorem dX5_mix_6 : decode cX5_mix 6 = .ok (.if_icmp .ne 7, 3) := by decide +kernel
theorem dX5_mix_9 : decode cX5_mix 9 = .ok (.iload_n 1, 1) := by decide +kernel
theorem dX5_mix_10 : decode cX5_mix 10 = .ok (.goto 17, 3) := by decide +kernel
theorem dX5_mix_13 : decode cX5_mix 13 = .ok (.iload_n 1, 1) := by decide +kernel
theorem dX5_mix_14 : decode cX5_mix 14 = .ok (.ifCond .ne 7, 3) := by decide +kernel
theorem dX5_mix_17 : decode cX5_mix 17 = .ok (.iload_n 0, 1) := by decide +kernel
theorem dX5_mix_18 : decode cX5_mix 18 = .ok (.goto 9, 3) := by decide +kernel
theorem dX5_mix_21 : decode cX5_mix 21 = .ok (.bipush 6, 2) := by decide +kernel
theorem dX5_mix_23 : decode cX5_mix 23 = .ok (.iload_n 0, 1) := by decide +kernel
theorem dX5_mix_24 : decode cX5_mix 24 = .ok (.isub, 1) := by decide +kernel
theorem dX5_mix_25 : decode cX5_mix 25 = .ok (.iload_n 1, 1) := by decide +kernel
theorem dX5_mix_26 : decode cX5_mix 26 = .ok (.isub, 1) := by decide +kernel
theorem dX5_mix_27 : decode cX5_mix 27 = .ok (.ireturn, 1) := by decide +kernel
theorem dX5_mendOn_0 : decode cX5_mendOn 0 = .ok (.aload_n 0, 1) := by decide +kernel
theorem dX5_mendOn_1 : decode cX5_mendOn 1 = .ok (.iload_n 1, 1) := by decide +kernel
theorem dX5_mendOn_2 : decode cX5_mendOn 2 = .ok (.invokevirtual 70, 3) := by decide +kernel
theorem dX5_mendOn_5 : decode cX5_mendOn 5 = .ok (.ifCond .eq 4, 3) := by decide +kernel
theorem dX5_mendOn_8 : decode cX5_mendOn 8 = .ok (.return_, 1) := by decide +kernel
theorem dX5_mendOn_9 : decode cX5_mendOn 9 = .ok (.aload_n 0, 1) := by decide +kernel
theorem dX5_mendOn_10 : decode cX5_mendOn 10 = .ok (.iload_n 1, 1) := by decide +kernel
theorem dX5_mendOn_11 : decode cX5_mendOn 11 = .ok (.iconst 0, 1) := by decide +kernel
theorem dX5_mendOn_12 : decode cX5_mendOn 12 = .ok (.aload_n 0, 1) := by decide +kernel
theorem dX5_mendOn_13 : decode cX5_mendOn 13 = .ok (.iload_n 1, 1) := by decide +kernel
theorem dX5_mendOn_14 : decode cX5_mendOn 14 = .ok (.iconst 0, 1) := by decide +kernel
theorem dX5_mendOn_15 : decode cX5_mendOn 15 = .ok (.invokevirtual 63, 3) := by decide +kernel
theorem dX5_mendOn_18 : decode cX5_mendOn 18 = .ok (.iconst 1, 1) := by decide +kernel
theorem dX5_mendOn_19 : decode cX5_mendOn 19 = .ok (.isub, 1) := by decide +kernel
theorem dX5_mendOn_20 : decode cX5_mendOn 20 = .ok (.invokevirtual 90, 3) := by decide +kernel
theorem dX5_mendOn_23 : decode cX5_mendOn 23 = .ok (.aload_n 0, 1) := by decide +kernel
theorem dX5_mendOn_24 : decode cX5_mendOn 24 = .ok (.iload_n 1, 1) := by decide +kernel
theorem dX5_mendOn_25 : decode cX5_mendOn 25 = .ok (.invokevirtual 70, 3) := by decide +kernel
theorem dX5_mendOn_28 : decode cX5_mendOn 28 = .ok (.ifCond .ne 4, 3) := by decide +kernel
theorem dX5_mendOn_31 : decode cX5_mendOn 31 = .ok (.return_, 1) := by decide +kernel
theorem dX5_mendOn_32 : decode cX5_mendOn 32 = .ok (.aload_n 0, 1) := by decide +kernel
theorem dX5_mendOn_33 : decode cX5_mendOn 33 = .ok (.iload_n 1, 1) := by decide +kernel
theorem dX5_mendOn_34 : decode cX5_mendOn 34 = .ok (.iconst 1, 1) := by decide +kernel
theorem dX5_mendOn_35 : decode cX5_mendOn 35 = .ok (.iconst 0, 1) := by decide +kernel
theorem dX5_mendOn_36 : decode cX5_mendOn 36 = .ok (.invokevirtual 90, 3) := by decide +kernel
theorem dX5_mendOn_39 : decode cX5_mendOn 39 = .ok (.aload_n 0, 1) := by decide +kernel
theorem dX5_mendOn_40 : decode cX5_mendOn 40 = .ok (.iload_n 1, 1) := by decide +kernel
theorem dX5_mendOn_41 : decode cX5_mendOn 41 = .ok (.iconst 2, 1) := by decide +kernel
theorem dX5_mendOn_42 : decode cX5_mendOn 42 = .ok (.iconst 3, 1) := by decide +kernel
theorem dX5_mendOn_43 : decode cX5_mendOn 43 = .ok (.aload_n 0, 1) := by decide +kernel
theorem dX5_mendOn_44 : decode cX5_mendOn 44 = .ok (.iload_n 1, 1) := by decide +kernel
theorem dX5_mendOn_45 : decode cX5_mendOn 45 = .ok (.iconst 2, 1) := by decide +kernel
theorem dX5_mendOn_46 : decode cX5_mendOn 46 = .ok (.invokevirtual 63, 3) := by decide +kernel
theorem dX5_mendOn_49 : decode cX5_mendOn 49 = .ok (.iconst 1, 1) := by decide +kernel
theorem dX5_mendOn_50 : decode cX5_mendOn 50 = .ok (.iadd, 1) := by decide +kernel
theorem dX5_mendOn_51 : decode cX5_mendOn 51 = .ok (.invokestatic 78, 3) := by decide +kernel
theorem dX5_mendOn_54 : decode cX5_mendOn 54 = .ok (.invokevirtual 90, 3) := by decide +kernel
theorem dX5_mendOn_57 : decode cX5_mendOn 57 = .ok (.return_, 1) := by decide +kernel
theorem dX5_goOn_0 : decode cX5_goOn 0 = .ok (.aload_n 0, 1) := by decide +kernel
theorem dX5_goOn_1 : decode cX5_goOn 1 = .ok (.iload_n 1, 1) := by decide +kernel
theorem dX5_goOn_2 : decode cX5_goOn 2 = .ok (.iconst 4, 1) := by decide +kernel
theorem dX5_goOn_3 : decode cX5_goOn 3 = .ok (.invokevirtual 67, 3) := by decide +kernel
theorem dX5_goOn_6 : decode cX5_goOn 6 = .ok (.iconst (-1), 1) := by decide +kernel
theorem dX5_goOn_7 : decode cX5_goOn 7 = .ok (.if_icmp .eq 4, 3) := by decide +kernel
theorem dX5_goOn_10 : decode cX5_goOn 10 = .ok (.return_, 1) := by decide +kernel
theorem dX5_goOn_11 : decode cX5_goOn 11 = .ok (.aload_n 0, 1) := by decide +kernel
theorem dX5_goOn_12 : decode cX5_goOn 12 = .ok (.iload_n 1, 1) := by decide +kernel
theorem dX5_goOn_13 : decode cX5_goOn 13 = .ok (.iconst 1, 1) := by decide +kernel
theorem dX5_goOn_14 : decode cX5_goOn 14 = .ok (.invokevirtual 67, 3) := by decide +kernel
theorem dX5_goOn_17 : decode cX5_goOn 17 = .ok (.iconst (-1), 1) := by decide +kernel
theorem dX5_goOn_18 : decode cX5_goOn 18 = .ok (.if_icmp .ne 100, 3) := by decide +kernel
theorem dX5_goOn_21 : decode cX5_goOn 21 = .ok (.aload_n 0, 1) := by decide +kernel
theorem dX5_goOn_22 : decode cX5_goOn 22 = .ok (.iload_n 1, 1) := by decide +kernel
theorem dX5_goOn_23 : decode cX5_goOn 23 = .ok (.iconst 0, 1) := by decide +kernel
theorem dX5_goOn_24 : decode cX5_goOn 24 = .ok (.invokevirtual 67, 3) := by decide +kernel
theorem dX5_goOn_27 : decode cX5_goOn 27 = .ok (.istore_n 2, 1) := by decide +kernel
theorem dX5_goOn_28 : decode cX5_goOn 28 = .ok (.aload_n 0, 1) := by decide +kernel
theorem dX5_goOn_29 : decode cX5_goOn 29 = .ok (.iload_n 2, 1) := by decide +kernel
theorem dX5_goOn_30 : decode cX5_goOn 30 = .ok (.aload_n 0, 1) := by decide +kernel
theorem dX5_goOn_31 : decode cX5_goOn 31 = .ok (.getfield 22, 3) := by decide +kernel
theorem dX5_goOn_34 : decode cX5_goOn 34 = .ok (.iload_n 1, 1) := by decide +kernel
theorem dX5_goOn_35 : decode cX5_goOn 35 = .ok (.iaload, 1) := by decide +kernel
theorem dX5_goOn_36 : decode cX5_goOn 36 = .ok (.invokevirtual 94, 3) := by decide +kernel
theorem dX5_goOn_39 : decode cX5_goOn 39 = .ok (.istore_n 3, 1) := by decide +kernel
theorem dX5_goOn_40 : decode cX5_goOn 40 = .ok (.iload_n 3, 1) := by decide +kernel
theorem dX5_goOn_41 : decode cX5_goOn 41 = .ok (.iconst (-1), 1) := by decide +kernel
theorem dX5_goOn_42 : decode cX5_goOn 42 = .ok (.if_icmp .ne 4, 3) := by decide +kernel
theorem dX5_goOn_45 : decode cX5_goOn 45 = .ok (.return_, 1) := by decide +kernel
theorem dX5_goOn_46 : decode cX5_goOn 46 = .ok (.aload_n 0, 1) := by decide +kernel
theorem dX5_goOn_47 : decode cX5_goOn 47 = .ok (.iload_n 1, 1) := by decide +kernel
theorem dX5_goOn_48 : decode cX5_goOn 48 = .ok (.iconst 0, 1) := by decide +kernel
theorem dX5_goOn_49 : decode cX5_goOn 49 = .ok (.iconst (-1), 1) := by decide +kernel
theorem dX5_goOn_50 : decode cX5_goOn 50 = .ok (.invokevirtual 97, 3) := by decide +kernel
theorem dX5_goOn_53 : decode cX5_goOn 53 = .ok (.aload_n 0, 1) := by decide +kernel
theorem dX5_goOn_54 : decode cX5_goOn 54 = .ok (.iload_n 1, 1) := by decide +kernel
theorem dX5_goOn_55 : decode cX5_goOn 55 = .ok (.iconst 1, 1) := by decide +kernel
theorem dX5_goOn_56 : decode cX5_goOn 56 = .ok (.iload_n 3, 1) := by decide +kernel
theorem dX5_goOn_57 : decode cX5_goOn 57 = .ok (.invokevirtual 97, 3) := by decide +kernel
theorem dX5_goOn_60 : decode cX5_goOn 60 = .ok (.aload_n 0, 1) := by decide +kernel
theorem dX5_goOn_61 : decode cX5_goOn 61 = .ok (.iload_n 1, 1) := by decide +kernel
theorem dX5_goOn_62 : decode cX5_goOn 62 = .ok (.iconst 2, 1) := by decide +kernel
theorem dX5_goOn_63 : decode cX5_goOn 63 = .ok (.aload_n 0, 1) := by decide +kernel
theorem dX5_goOn_64 : decode cX5_goOn 64 = .ok (.iload_n 3, 1) := by decide +kernel
theorem dX5_goOn_65 : decode cX5_goOn 65 = .ok (.invokevirtual 74, 3) := by decide +kernel
theorem dX5_goOn_68 : decode cX5_goOn 68 = .ok (.invokevirtual 97, 3) := by decide +kernel
theorem dX5_goOn_71 : decode cX5_goOn 71 = .ok (.aload_n 0, 1) := by decide +kernel
theorem dX5_goOn_72 : decode cX5_goOn 72 = .ok (.iload_n 1, 1) := by decide +kernel
theorem dX5_goOn_73 : decode cX5_goOn 73 = .ok (.iconst 5, 1) := by decide +kernel
theorem dX5_goOn_74 : decode cX5_goOn 74 = .ok (.aload_n 0, 1) := by decide +kernel
theorem dX5_goOn_75 : decode cX5_goOn 75 = .ok (.iload_n 3, 1) := by decide +kernel
theorem dX5_goOn_76 : decode cX5_goOn 76 = .ok (.iload_n 2, 1) := by decide +kernel
theorem dX5_goOn_77 : decode cX5_goOn 77 = .ok (.invokevirtual 87, 3) := by decide +kernel
theorem dX5_goOn_80 : decode cX5_goOn 80 = .ok (.invokevirtual 97, 3) := by decide +kernel
theorem dX5_goOn_83 : decode cX5_goOn 83 = .ok (.aload_n 0, 1) := by decide +kernel
theorem dX5_goOn_84 : decode cX5_goOn 84 = .ok (.iload_n 1, 1) := by decide +kernel
theorem dX5_goOn_85 : decode cX5_goOn 85 = .ok (.iconst 3, 1) := by decide +kernel
theorem dX5_goOn_86 : decode cX5_goOn 86 = .ok (.aload_n 0, 1) := by decide +kernel
theorem dX5_goOn_87 : decode cX5_goOn 87 = .ok (.iload_n 1, 1) := by decide +kernel
theorem dX5_goOn_88 : decode cX5_goOn 88 = .ok (.iconst 3, 1) := by decide +kernel
theorem dX5_goOn_89 : decode cX5_goOn 89 = .ok (.invokevirtual 67, 3) := by decide +kernel
theorem dX5_goOn_92 : decode cX5_goOn 92 = .ok (.aload_n 0, 1) := by decide +kernel
theorem dX5_goOn_93 : decode cX5_goOn 93 = .ok (.getfield 19, 3) := by decide +kernel
theorem dX5_goOn_96 : decode cX5_goOn 96 = .ok (.iload_n 3, 1) := by decide +kernel
theorem dX5_goOn_97 : decode cX5_goOn 97 = .ok (.iaload, 1) := by decide +kernel
theorem dX5_goOn_98 : decode cX5_goOn 98 = .ok (.invokestatic 100, 3) := by decide +kernel
theorem dX5_goOn_101 : decode cX5_goOn 101 = .ok (.invokevirtual 97, 3) := by decide +kernel
theorem dX5_goOn_104 : decode cX5_goOn 104 = .ok (.aload_n 0, 1) := by decide +kernel
theorem dX5_goOn_105 : decode cX5_goOn 105 = .ok (.iload_n 3, 1) := by decide +kernel
theorem dX5_goOn_106 : decode cX5_goOn 106 = .ok (.iconst 1, 1) := by decide +kernel
theorem dX5_goOn_107 : decode cX5_goOn 107 = .ok (.aload_n 0, 1) := by decide +kernel
theorem dX5_goOn_108 : decode cX5_goOn 108 = .ok (.iload_n 3, 1) := by decide +kernel
theorem dX5_goOn_109 : decode cX5_goOn 109 = .ok (.iconst 1, 1) := by decide +kernel
theorem dX5_goOn_110 : decode cX5_goOn 110 = .ok (.invokevirtual 63, 3) := by decide +kernel
theorem dX5_goOn_113 : decode cX5_goOn 113 = .ok (.iconst 1, 1) := by decide +kernel
theorem dX5_goOn_114 : decode cX5_goOn 114 = .ok (.iadd, 1) := by decide +kernel
theorem dX5_goOn_115 : decode cX5_goOn 115 = .ok (.invokevirtual 90, 3) := by decide +kernel
theorem dX5_goOn_118 : decode cX5_goOn 118 = .ok (.aload_n 0, 1) := by decide +kernel
theorem dX5_goOn_119 : decode cX5_goOn 119 = .ok (.iload_n 1, 1) := by decide +kernel
theorem dX5_goOn_120 : decode cX5_goOn 120 = .ok (.iconst 2, 1) := by decide +kernel
theorem dX5_goOn_121 : decode cX5_goOn 121 = .ok (.aload_n 0, 1) := by decide +kernel
theorem dX5_goOn_122 : decode cX5_goOn 122 = .ok (.iload_n 1, 1) := by decide +kernel
theorem dX5_goOn_123 : decode cX5_goOn 123 = .ok (.iconst 2, 1) := by decide +kernel
theorem dX5_goOn_124 : decode cX5_goOn 124 = .ok (.invokevirtual 67, 3) := by decide +kernel
theorem dX5_goOn_127 : decode cX5_goOn 127 = .ok (.iconst 1, 1) := by decide +kernel
theorem dX5_goOn_128 : decode cX5_goOn 128 = .ok (.isub, 1) := by decide +kernel
theorem dX5_goOn_129 : decode cX5_goOn 129 = .ok (.invokevirtual 97, 3) := by decide +kernel
theorem dX5_goOn_132 : decode cX5_goOn 132 = .ok (.aload_n 0, 1) := by decide +kernel
theorem dX5_goOn_133 : decode cX5_goOn 133 = .ok (.iload_n 1, 1) := by decide +kernel
theorem dX5_goOn_134 : decode cX5_goOn 134 = .ok (.iconst 2, 1) := by decide +kernel
theorem dX5_goOn_135 : decode cX5_goOn 135 = .ok (.invokevirtual 67, 3) := by decide +kernel
theorem dX5_goOn_138 : decode cX5_goOn 138 = .ok (.ifCond .le 4, 3) := by decide +kernel
theorem dX5_goOn_141 : decode cX5_goOn 141 = .ok (.return_, 1) := by decide +kernel
theorem dX5_goOn_142 : decode cX5_goOn 142 = .ok (.aload_n 0, 1) := by decide +kernel
theorem dX5_goOn_143 : decode cX5_goOn 143 = .ok (.iload_n 1, 1) := by decide +kernel
theorem dX5_goOn_144 : decode cX5_goOn 144 = .ok (.iconst 0, 1) := by decide +kernel
theorem dX5_goOn_145 : decode cX5_goOn 145 = .ok (.aload_n 0, 1) := by decide +kernel
theorem dX5_goOn_146 : decode cX5_goOn 146 = .ok (.iload_n 1, 1) := by decide +kernel
theorem dX5_goOn_147 : decode cX5_goOn 147 = .ok (.iconst 5, 1) := by decide +kernel
theorem dX5_goOn_148 : decode cX5_goOn 148 = .ok (.invokevirtual 67, 3) := by decide +kernel
theorem dX5_goOn_151 : decode cX5_goOn 151 = .ok (.invokevirtual 97, 3) := by decide +kernel
theorem dX5_goOn_154 : decode cX5_goOn 154 = .ok (.aload_n 0, 1) := by decide +kernel
theorem dX5_goOn_155 : decode cX5_goOn 155 = .ok (.iload_n 1, 1) := by decide +kernel
theorem dX5_goOn_156 : decode cX5_goOn 156 = .ok (.iconst 1, 1) := by decide +kernel
theorem dX5_goOn_157 : decode cX5_goOn 157 = .ok (.iconst (-1), 1) := by decide +kernel
theorem dX5_goOn_158 : decode cX5_goOn 158 = .ok (.invokevirtual 97, 3) := by decide +kernel
theorem dX5_goOn_161 : decode cX5_goOn 161 = .ok (.aload_n 0, 1) := by decide +kernel
theorem dX5_goOn_162 : decode cX5_goOn 162 = .ok (.iload_n 1, 1) := by decide +kernel
theorem dX5_goOn_163 : decode cX5_goOn 163 = .ok (.iconst 5, 1) := by decide +kernel
theorem dX5_goOn_164 : decode cX5_goOn 164 = .ok (.invokevirtual 67, 3) := by decide +kernel
theorem dX5_goOn_167 : decode cX5_goOn 167 = .ok (.aload_n 0, 1) := by decide +kernel
theorem dX5_goOn_168 : decode cX5_goOn 168 = .ok (.getfield 22, 3) := by decide +kernel
theorem dX5_goOn_171 : decode cX5_goOn 171 = .ok (.iload_n 1, 1) := by decide +kernel
theorem dX5_goOn_172 : decode cX5_goOn 172 = .ok (.iaload, 1) := by decide +kernel
theorem dX5_goOn_173 : decode cX5_goOn 173 = .ok (.if_icmp .ne 17, 3) := by decide +kernel
theorem dX5_goOn_176 : decode cX5_goOn 176 = .ok (.aload_n 0, 1) := by decide +kernel
theorem dX5_goOn_177 : decode cX5_goOn 177 = .ok (.iload_n 1, 1) := by decide +kernel
theorem dX5_goOn_178 : decode cX5_goOn 178 = .ok (.iconst 4, 1) := by decide +kernel
theorem dX5_goOn_179 : decode cX5_goOn 179 = .ok (.aload_n 0, 1) := by decide +kernel
theorem dX5_goOn_180 : decode cX5_goOn 180 = .ok (.getfield 31, 3) := by decide +kernel
theorem dX5_goOn_183 : decode cX5_goOn 183 = .ok (.iconst 0, 1) := by decide +kernel
theorem dX5_goOn_184 : decode cX5_goOn 184 = .ok (.iaload, 1) := by decide +kernel
theorem dX5_goOn_185 : decode cX5_goOn 185 = .ok (.iconst 1, 1) := by decide +kernel
theorem dX5_goOn_186 : decode cX5_goOn 186 = .ok (.iadd, 1) := by decide +kernel
theorem dX5_goOn_187 : decode cX5_goOn 187 = .ok (.invokevirtual 97, 3) := by decide +kernel
theorem dX5_goOn_190 : decode cX5_goOn 190 = .ok (.return_, 1) := by decide +kernel
theorem dX5_hourOn_0 : decode cX5_hourOn 0 = .ok (.iconst 0, 1) := by decide +kernel
theorem dX5_hourOn_1 : decode cX5_hourOn 1 = .ok (.istore_n 1, 1) := by decide +kernel
theorem dX5_hourOn_2 : decode cX5_hourOn 2 = .ok (.iload_n 1, 1) := by decide +kernel
theorem dX5_hourOn_3 : decode cX5_hourOn 3 = .ok (.aload_n 0, 1) := by decide +kernel
theorem dX5_hourOn_4 : decode cX5_hourOn 4 = .ok (.getfield 51, 3) := by decide +kernel
theorem dX5_hourOn_7 : decode cX5_hourOn 7 = .ok (.if_icmp .ge 14, 3) := by decide +kernel
theorem dX5_hourOn_10 : decode cX5_hourOn 10 = .ok (.aload_n 0, 1) := by decide +kernel
theorem dX5_hourOn_11 : decode cX5_hourOn 11 = .ok (.iload_n 1, 1) := by decide +kernel
theorem dX5_hourOn_12 : decode cX5_hourOn 12 = .ok (.invokevirtual 103, 3) := by decide +kernel
theorem dX5_hourOn_15 : decode cX5_hourOn 15 = .ok (.iinc 1 1, 3) := by decide +kernel
theorem dX5_hourOn_18 : decode cX5_hourOn 18 = .ok (.goto (-16), 3) := by decide +kernel
theorem dX5_hourOn_21 : decode cX5_hourOn 21 = .ok (.iconst 0, 1) := by decide +kernel
theorem dX5_hourOn_22 : decode cX5_hourOn 22 = .ok (.istore_n 1, 1) := by decide +kernel
theorem dX5_hourOn_23 : decode cX5_hourOn 23 = .ok (.iload_n 1, 1) := by decide +kernel
theorem dX5_hourOn_24 : decode cX5_hourOn 24 = .ok (.aload_n 0, 1) := by decide +kernel
theorem dX5_hourOn_25 : decode cX5_hourOn 25 = .ok (.getfield 54, 3) := by decide +kernel
theorem dX5_hourOn_28 : decode cX5_hourOn 28 = .ok (.if_icmp .ge 14, 3) := by decide +kernel
theorem dX5_hourOn_31 : decode cX5_hourOn 31 = .ok (.aload_n 0, 1) := by decide +kernel
theorem dX5_hourOn_32 : decode cX5_hourOn 32 = .ok (.iload_n 1, 1) := by decide +kernel
theorem dX5_hourOn_33 : decode cX5_hourOn 33 = .ok (.invokevirtual 107, 3) := by decide +kernel
theorem dX5_hourOn_36 : decode cX5_hourOn 36 = .ok (.iinc 1 1, 3) := by decide +kernel
theorem dX5_hourOn_39 : decode cX5_hourOn 39 = .ok (.goto (-16), 3) := by decide +kernel
theorem dX5_hourOn_42 : decode cX5_hourOn 42 = .ok (.iconst 0, 1) := by decide +kernel
theorem dX5_hourOn_43 : decode cX5_hourOn 43 = .ok (.istore_n 1, 1) := by decide +kernel
theorem dX5_hourOn_44 : decode cX5_hourOn 44 = .ok (.iload_n 1, 1) := by decide +kernel
theorem dX5_hourOn_45 : decode cX5_hourOn 45 = .ok (.aload_n 0, 1) := by decide +kernel
theorem dX5_hourOn_46 : decode cX5_hourOn 46 = .ok (.getfield 51, 3) := by decide +kernel
theorem dX5_hourOn_49 : decode cX5_hourOn 49 = .ok (.if_icmp .ge 42, 3) := by decide +kernel
theorem dX5_hourOn_52 : decode cX5_hourOn 52 = .ok (.aload_n 0, 1) := by decide +kernel
theorem dX5_hourOn_53 : decode cX5_hourOn 53 = .ok (.iload_n 1, 1) := by decide +kernel
theorem dX5_hourOn_54 : decode cX5_hourOn 54 = .ok (.invokevirtual 70, 3) := by decide +kernel
theorem dX5_hourOn_57 : decode cX5_hourOn 57 = .ok (.ifCond .eq 28, 3) := by decide +kernel
theorem dX5_hourOn_60 : decode cX5_hourOn 60 = .ok (.aload_n 0, 1) := by decide +kernel
theorem dX5_hourOn_61 : decode cX5_hourOn 61 = .ok (.iload_n 1, 1) := by decide +kernel
theorem dX5_hourOn_62 : decode cX5_hourOn 62 = .ok (.iconst 1, 1) := by decide +kernel
theorem dX5_hourOn_63 : decode cX5_hourOn 63 = .ok (.invokevirtual 63, 3) := by decide +kernel
theorem dX5_hourOn_66 : decode cX5_hourOn 66 = .ok (.iconst 5, 1) := by decide +kernel
theorem dX5_hourOn_67 : decode cX5_hourOn 67 = .ok (.if_icmp .lt 18, 3) := by decide +kernel
theorem dX5_hourOn_70 : decode cX5_hourOn 70 = .ok (.aload_n 0, 1) := by decide +kernel
theorem dX5_hourOn_71 : decode cX5_hourOn 71 = .ok (.iload_n 1, 1) := by decide +kernel
theorem dX5_hourOn_72 : decode cX5_hourOn 72 = .ok (.invokevirtual 110, 3) := by decide +kernel
theorem dX5_hourOn_75 : decode cX5_hourOn 75 = .ok (.ifCond .ne 10, 3) := by decide +kernel
theorem dX5_hourOn_78 : decode cX5_hourOn 78 = .ok (.aload_n 0, 1) := by decide +kernel
theorem dX5_hourOn_79 : decode cX5_hourOn 79 = .ok (.iload_n 1, 1) := by decide +kernel
theorem dX5_hourOn_80 : decode cX5_hourOn 80 = .ok (.iconst 0, 1) := by decide +kernel
theorem dX5_hourOn_81 : decode cX5_hourOn 81 = .ok (.iconst 4, 1) := by decide +kernel
theorem dX5_hourOn_82 : decode cX5_hourOn 82 = .ok (.invokevirtual 90, 3) := by decide +kernel
theorem dX5_hourOn_85 : decode cX5_hourOn 85 = .ok (.iinc 1 1, 3) := by decide +kernel
theorem dX5_hourOn_88 : decode cX5_hourOn 88 = .ok (.goto (-44), 3) := by decide +kernel
theorem dX5_hourOn_91 : decode cX5_hourOn 91 = .ok (.aload_n 0, 1) := by decide +kernel
theorem dX5_hourOn_92 : decode cX5_hourOn 92 = .ok (.getfield 31, 3) := by decide +kernel
theorem dX5_hourOn_95 : decode cX5_hourOn 95 = .ok (.iconst 0, 1) := by decide +kernel
theorem dX5_hourOn_96 : decode cX5_hourOn 96 = .ok (.dup2, 1) := by decide +kernel
theorem dX5_hourOn_97 : decode cX5_hourOn 97 = .ok (.iaload, 1) := by decide +kernel
theorem dX5_hourOn_98 : decode cX5_hourOn 98 = .ok (.iconst 1, 1) := by decide +kernel
theorem dX5_hourOn_99 : decode cX5_hourOn 99 = .ok (.iadd, 1) := by decide +kernel
theorem dX5_hourOn_100 : decode cX5_hourOn 100 = .ok (.iastore, 1) := by decide +kernel
theorem dX5_hourOn_101 : decode cX5_hourOn 101 = .ok (.return_, 1) := by decide +kernel
theorem dX5_hoursOn_0 : decode cX5_hoursOn 0 = .ok (.iconst 0, 1) := by decide +kernel
theorem dX5_hoursOn_1 : decode cX5_hoursOn 1 = .ok (.istore_n 2, 1) := by decide +kernel
theorem dX5_hoursOn_2 : decode cX5_hoursOn 2 = .ok (.iload_n 2, 1) := by decide +kernel
theorem dX5_hoursOn_3 : decode cX5_hoursOn 3 = .ok (.iload_n 1, 1) := by decide +kernel
theorem dX5_hoursOn_4 : decode cX5_hoursOn 4 = .ok (.if_icmp .ge 13, 3) := by decide +kernel
theorem dX5_hoursOn_7 : decode cX5_hoursOn 7 = .ok (.aload_n 0, 1) := by decide +kernel
theorem dX5_hoursOn_8 : decode cX5_hoursOn 8 = .ok (.invokevirtual 113, 3) := by decide +kernel
theorem dX5_hoursOn_11 : decode cX5_hoursOn 11 = .ok (.iinc 2 1, 3) := by decide +kernel
theorem dX5_hoursOn_14 : decode cX5_hoursOn 14 = .ok (.goto (-12), 3) := by decide +kernel
theorem dX5_hoursOn_17 : decode cX5_hoursOn 17 = .ok (.return_, 1) := by decide +kernel
theorem dX5_addCrossing_0 : decode cX5_addCrossing 0 = .ok (.aload_n 0, 1) := by decide +kernel
theorem dX5_addCrossing_1 : decode cX5_addCrossing 1 = .ok (.iconst 0, 1) := by decide +kernel
theorem dX5_addCrossing_2 : decode cX5_addCrossing 2 = .ok (.putfield 40, 3) := by decide +kernel
theorem dX5_addCrossing_5 : decode cX5_addCrossing 5 = .ok (.aload_n 0, 1) := by decide +kernel
theorem dX5_addCrossing_6 : decode cX5_addCrossing 6 = .ok (.getfield 44, 3) := by decide +kernel
theorem dX5_addCrossing_9 : decode cX5_addCrossing 9 = .ok (.bipush 10, 2) := by decide +kernel
theorem dX5_addCrossing_11 : decode cX5_addCrossing 11 = .ok (.if_icmp .ne 9, 3) := by decide +kernel
theorem dX5_addCrossing_14 : decode cX5_addCrossing 14 = .ok (.aload_n 0, 1) := by decide +kernel
theorem dX5_addCrossing_15 : decode cX5_addCrossing 15 = .ok (.iconst 1, 1) := by decide +kernel
theorem dX5_addCrossing_16 : decode cX5_addCrossing 16 = .ok (.invokevirtual 116, 3) := by decide +kernel
theorem dX5_addCrossing_19 : decode cX5_addCrossing 19 = .ok (.ireturn, 1) := by decide +kernel
theorem dX5_addCrossing_20 : decode cX5_addCrossing 20 = .ok (.aload_n 0, 1) := by decide +kernel
theorem dX5_addCrossing_21 : decode cX5_addCrossing 21 = .ok (.dup, 1) := by decide +kernel
theorem dX5_addCrossing_22 : decode cX5_addCrossing 22 = .ok (.getfield 44, 3) := by decide +kernel
theorem dX5_addCrossing_25 : decode cX5_addCrossing 25 = .ok (.iconst 1, 1) := by decide +kernel
theorem dX5_addCrossing_26 : decode cX5_addCrossing 26 = .ok (.iadd, 1) := by decide +kernel
theorem dX5_addCrossing_27 : decode cX5_addCrossing 27 = .ok (.putfield 44, 3) := by decide +kernel
theorem dX5_addCrossing_30 : decode cX5_addCrossing 30 = .ok (.aload_n 0, 1) := by decide +kernel
theorem dX5_addCrossing_31 : decode cX5_addCrossing 31 = .ok (.getfield 44, 3) := by decide +kernel
theorem dX5_addCrossing_34 : decode cX5_addCrossing 34 = .ok (.iconst 1, 1) := by decide +kernel
theorem dX5_addCrossing_35 : decode cX5_addCrossing 35 = .ok (.isub, 1) := by decide +kernel
theorem dX5_addCrossing_36 : decode cX5_addCrossing 36 = .ok (.ireturn, 1) := by decide +kernel
theorem dX5_addRoad_0 : decode cX5_addRoad 0 = .ok (.aload_n 0, 1) := by decide +kernel
theorem dX5_addRoad_1 : decode cX5_addRoad 1 = .ok (.iconst 0, 1) := by decide +kernel
theorem dX5_addRoad_2 : decode cX5_addRoad 2 = .ok (.putfield 40, 3) := by decide +kernel
theorem dX5_addRoad_5 : decode cX5_addRoad 5 = .ok (.aload_n 0, 1) := by decide +kernel
theorem dX5_addRoad_6 : decode cX5_addRoad 6 = .ok (.iload_n 1, 1) := by decide +kernel
theorem dX5_addRoad_7 : decode cX5_addRoad 7 = .ok (.invokevirtual 119, 3) := by decide +kernel
theorem dX5_addRoad_10 : decode cX5_addRoad 10 = .ok (.ifCond .eq 11, 3) := by decide +kernel
theorem dX5_addRoad_13 : decode cX5_addRoad 13 = .ok (.aload_n 0, 1) := by decide +kernel
theorem dX5_addRoad_14 : decode cX5_addRoad 14 = .ok (.iload_n 2, 1) := by decide +kernel
theorem dX5_addRoad_15 : decode cX5_addRoad 15 = .ok (.invokevirtual 119, 3) := by decide +kernel
theorem dX5_addRoad_18 : decode cX5_addRoad 18 = .ok (.ifCond .ne 9, 3) := by decide +kernel
theorem dX5_addRoad_21 : decode cX5_addRoad 21 = .ok (.aload_n 0, 1) := by decide +kernel
theorem dX5_addRoad_22 : decode cX5_addRoad 22 = .ok (.iconst 1, 1) := by decide +kernel
theorem dX5_addRoad_23 : decode cX5_addRoad 23 = .ok (.invokevirtual 116, 3) := by decide +kernel
theorem dX5_addRoad_26 : decode cX5_addRoad 26 = .ok (.ireturn, 1) := by decide +kernel
theorem dX5_addRoad_27 : decode cX5_addRoad 27 = .ok (.iload_n 1, 1) := by decide +kernel
theorem dX5_addRoad_28 : decode cX5_addRoad 28 = .ok (.iload_n 2, 1) := by decide +kernel
theorem dX5_addRoad_29 : decode cX5_addRoad 29 = .ok (.if_icmp .eq 23, 3) := by decide +kernel
theorem dX5_addRoad_32 : decode cX5_addRoad 32 = .ok (.iload_n 3, 1) := by decide +kernel
theorem dX5_addRoad_33 : decode cX5_addRoad 33 = .ok (.iconst 1, 1) := by decide +kernel
theorem dX5_addRoad_34 : decode cX5_addRoad 34 = .ok (.bipush 9, 2) := by decide +kernel
theorem dX5_addRoad_36 : decode cX5_addRoad 36 = .ok (.invokestatic 47, 3) := by decide +kernel
theorem dX5_addRoad_39 : decode cX5_addRoad 39 = .ok (.ifCond .eq 13, 3) := by decide +kernel
theorem dX5_addRoad_42 : decode cX5_addRoad 42 = .ok (.iload 4, 2) := by decide +kernel
theorem dX5_addRoad_44 : decode cX5_addRoad 44 = .ok (.iconst 0, 1) := by decide +kernel
theorem dX5_addRoad_45 : decode cX5_addRoad 45 = .ok (.iconst 3, 1) := by decide +kernel
theorem dX5_addRoad_46 : decode cX5_addRoad 46 = .ok (.invokestatic 47, 3) := by decide +kernel
theorem dX5_addRoad_49 : decode cX5_addRoad 49 = .ok (.ifCond .ne 9, 3) := by decide +kernel
theorem dX5_addRoad_52 : decode cX5_addRoad 52 = .ok (.aload_n 0, 1) := by decide +kernel
theorem dX5_addRoad_53 : decode cX5_addRoad 53 = .ok (.iconst 2, 1) := by decide +kernel
theorem dX5_addRoad_54 : decode cX5_addRoad 54 = .ok (.invokevirtual 116, 3) := by decide +kernel
theorem dX5_addRoad_57 : decode cX5_addRoad 57 = .ok (.ireturn, 1) := by decide +kernel
theorem dX5_addRoad_58 : decode cX5_addRoad 58 = .ok (.aload_n 0, 1) := by decide +kernel
theorem dX5_addRoad_59 : decode cX5_addRoad 59 = .ok (.getfield 51, 3) := by decide +kernel
theorem dX5_addRoad_62 : decode cX5_addRoad 62 = .ok (.bipush 20, 2) := by decide +kernel
theorem dX5_addRoad_64 : decode cX5_addRoad 64 = .ok (.if_icmp .ne 9, 3) := by decide +kernel
theorem dX5_addRoad_67 : decode cX5_addRoad 67 = .ok (.aload_n 0, 1) := by decide +kernel
theorem dX5_addRoad_68 : decode cX5_addRoad 68 = .ok (.iconst 3, 1) := by decide +kernel
theorem dX5_addRoad_69 : decode cX5_addRoad 69 = .ok (.invokevirtual 116, 3) := by decide +kernel
theorem dX5_addRoad_72 : decode cX5_addRoad 72 = .ok (.ireturn, 1) := by decide +kernel
theorem dX5_addRoad_73 : decode cX5_addRoad 73 = .ok (.aload_n 0, 1) := by decide +kernel
theorem dX5_addRoad_74 : decode cX5_addRoad 74 = .ok (.getfield 9, 3) := by decide +kernel
theorem dX5_addRoad_77 : decode cX5_addRoad 77 = .ok (.aload_n 0, 1) := by decide +kernel
theorem dX5_addRoad_78 : decode cX5_addRoad 78 = .ok (.getfield 51, 3) := by decide +kernel
theorem dX5_addRoad_81 : decode cX5_addRoad 81 = .ok (.iload_n 1, 1) := by decide +kernel
theorem dX5_addRoad_82 : decode cX5_addRoad 82 = .ok (.iastore, 1) := by decide +kernel
theorem dX5_addRoad_83 : decode cX5_addRoad 83 = .ok (.aload_n 0, 1) := by decide +kernel
theorem dX5_addRoad_84 : decode cX5_addRoad 84 = .ok (.getfield 13, 3) := by decide +kernel
theorem dX5_addRoad_87 : decode cX5_addRoad 87 = .ok (.aload_n 0, 1) := by decide +kernel
theorem dX5_addRoad_88 : decode cX5_addRoad 88 = .ok (.getfield 51, 3) := by decide +kernel
theorem dX5_addRoad_91 : decode cX5_addRoad 91 = .ok (.iload_n 2, 1) := by decide +kernel
theorem dX5_addRoad_92 : decode cX5_addRoad 92 = .ok (.iastore, 1) := by decide +kernel
theorem dX5_addRoad_93 : decode cX5_addRoad 93 = .ok (.aload_n 0, 1) := by decide +kernel
theorem dX5_addRoad_94 : decode cX5_addRoad 94 = .ok (.getfield 16, 3) := by decide +kernel
theorem dX5_addRoad_97 : decode cX5_addRoad 97 = .ok (.aload_n 0, 1) := by decide +kernel
theorem dX5_addRoad_98 : decode cX5_addRoad 98 = .ok (.getfield 51, 3) := by decide +kernel
theorem dX5_addRoad_101 : decode cX5_addRoad 101 = .ok (.iload_n 3, 1) := by decide +kernel
theorem dX5_addRoad_102 : decode cX5_addRoad 102 = .ok (.iastore, 1) := by decide +kernel
theorem dX5_addRoad_103 : decode cX5_addRoad 103 = .ok (.aload_n 0, 1) := by decide +kernel
theorem dX5_addRoad_104 : decode cX5_addRoad 104 = .ok (.getfield 19, 3) := by decide +kernel
theorem dX5_addRoad_107 : decode cX5_addRoad 107 = .ok (.aload_n 0, 1) := by decide +kernel
theorem dX5_addRoad_108 : decode cX5_addRoad 108 = .ok (.getfield 51, 3) := by decide +kernel
theorem dX5_addRoad_111 : decode cX5_addRoad 111 = .ok (.iload 4, 2) := by decide +kernel
theorem dX5_addRoad_113 : decode cX5_addRoad 113 = .ok (.iastore, 1) := by decide +kernel
theorem dX5_addRoad_114 : decode cX5_addRoad 114 = .ok (.aload_n 0, 1) := by decide +kernel
theorem dX5_addRoad_115 : decode cX5_addRoad 115 = .ok (.dup, 1) := by decide +kernel
theorem dX5_addRoad_116 : decode cX5_addRoad 116 = .ok (.getfield 51, 3) := by decide +kernel
theorem dX5_addRoad_119 : decode cX5_addRoad 119 = .ok (.iconst 1, 1) := by decide +kernel
theorem dX5_addRoad_120 : decode cX5_addRoad 120 = .ok (.iadd, 1) := by decide +kernel
theorem dX5_addRoad_121 : decode cX5_addRoad 121 = .ok (.putfield 51, 3) := by decide +kernel
theorem dX5_addRoad_124 : decode cX5_addRoad 124 = .ok (.aload_n 0, 1) := by decide +kernel
theorem dX5_addRoad_125 : decode cX5_addRoad 125 = .ok (.getfield 51, 3) := by decide +kernel
theorem dX5_addRoad_128 : decode cX5_addRoad 128 = .ok (.iconst 1, 1) := by decide +kernel
theorem dX5_addRoad_129 : decode cX5_addRoad 129 = .ok (.isub, 1) := by decide +kernel
theorem dX5_addRoad_130 : decode cX5_addRoad 130 = .ok (.ireturn, 1) := by decide +kernel
theorem dX5_addTourist_0 : decode cX5_addTourist 0 = .ok (.aload_n 0, 1) := by decide +kernel
theorem dX5_addTourist_1 : decode cX5_addTourist 1 = .ok (.iconst 0, 1) := by decide +kernel
theorem dX5_addTourist_2 : decode cX5_addTourist 2 = .ok (.putfield 40, 3) := by decide +kernel
theorem dX5_addTourist_5 : decode cX5_addTourist 5 = .ok (.aload_n 0, 1) := by decide +kernel
theorem dX5_addTourist_6 : decode cX5_addTourist 6 = .ok (.iload_n 1, 1) := by decide +kernel
theorem dX5_addTourist_7 : decode cX5_addTourist 7 = .ok (.invokevirtual 119, 3) := by decide +kernel
theorem dX5_addTourist_10 : decode cX5_addTourist 10 = .ok (.ifCond .eq 11, 3) := by decide +kernel
theorem dX5_addTourist_13 : decode cX5_addTourist 13 = .ok (.aload_n 0, 1) := by decide +kernel
theorem dX5_addTourist_14 : decode cX5_addTourist 14 = .ok (.iload_n 2, 1) := by decide +kernel
theorem dX5_addTourist_15 : decode cX5_addTourist 15 = .ok (.invokevirtual 119, 3) := by decide +kernel
theorem dX5_addTourist_18 : decode cX5_addTourist 18 = .ok (.ifCond .ne 9, 3) := by decide +kernel
theorem dX5_addTourist_21 : decode cX5_addTourist 21 = .ok (.aload_n 0, 1) := by decide +kernel
theorem dX5_addTourist_22 : decode cX5_addTourist 22 = .ok (.iconst 1, 1) := by decide +kernel
theorem dX5_addTourist_23 : decode cX5_addTourist 23 = .ok (.invokevirtual 116, 3) := by decide +kernel
theorem dX5_addTourist_26 : decode cX5_addTourist 26 = .ok (.ireturn, 1) := by decide +kernel
theorem dX5_addTourist_27 : decode cX5_addTourist 27 = .ok (.iload_n 1, 1) := by decide +kernel
theorem dX5_addTourist_28 : decode cX5_addTourist 28 = .ok (.iload_n 2, 1) := by decide +kernel
theorem dX5_addTourist_29 : decode cX5_addTourist 29 = .ok (.if_icmp .ne 9, 3) := by decide +kernel
theorem dX5_addTourist_32 : decode cX5_addTourist 32 = .ok (.aload_n 0, 1) := by decide +kernel
theorem dX5_addTourist_33 : decode cX5_addTourist 33 = .ok (.iconst 2, 1) := by decide +kernel
theorem dX5_addTourist_34 : decode cX5_addTourist 34 = .ok (.invokevirtual 116, 3) := by decide +kernel
theorem dX5_addTourist_37 : decode cX5_addTourist 37 = .ok (.ireturn, 1) := by decide +kernel
theorem dX5_addTourist_38 : decode cX5_addTourist 38 = .ok (.aload_n 0, 1) := by decide +kernel
theorem dX5_addTourist_39 : decode cX5_addTourist 39 = .ok (.iload_n 1, 1) := by decide +kernel
theorem dX5_addTourist_40 : decode cX5_addTourist 40 = .ok (.iload_n 2, 1) := by decide +kernel
theorem dX5_addTourist_41 : decode cX5_addTourist 41 = .ok (.iconst 1, 1) := by decide +kernel
theorem dX5_addTourist_42 : decode cX5_addTourist 42 = .ok (.invokevirtual 122, 3) := by decide +kernel
theorem dX5_addTourist_45 : decode cX5_addTourist 45 = .ok (.istore_n 3, 1) := by decide +kernel
theorem dX5_addTourist_46 : decode cX5_addTourist 46 = .ok (.aload_n 0, 1) := by decide +kernel
theorem dX5_addTourist_47 : decode cX5_addTourist 47 = .ok (.getfield 54, 3) := by decide +kernel
theorem dX5_addTourist_50 : decode cX5_addTourist 50 = .ok (.bipush 12, 2) := by decide +kernel
theorem dX5_addTourist_52 : decode cX5_addTourist 52 = .ok (.if_icmp .eq 8, 3) := by decide +kernel
theorem dX5_addTourist_55 : decode cX5_addTourist 55 = .ok (.iload_n 3, 1) := by decide +kernel
theorem dX5_addTourist_56 : decode cX5_addTourist 56 = .ok (.iconst (-1), 1) := by decide +kernel
theorem dX5_addTourist_57 : decode cX5_addTourist 57 = .ok (.if_icmp .ne 9, 3) := by decide +kernel
theorem dX5_addTourist_60 : decode cX5_addTourist 60 = .ok (.aload_n 0, 1) := by decide +kernel
theorem dX5_addTourist_61 : decode cX5_addTourist 61 = .ok (.iconst 3, 1) := by decide +kernel
theorem dX5_addTourist_62 : decode cX5_addTourist 62 = .ok (.invokevirtual 116, 3) := by decide +kernel
theorem dX5_addTourist_65 : decode cX5_addTourist 65 = .ok (.ireturn, 1) := by decide +kernel
theorem dX5_addTourist_66 : decode cX5_addTourist 66 = .ok (.aload_n 0, 1) := by decide +kernel
theorem dX5_addTourist_67 : decode cX5_addTourist 67 = .ok (.getfield 22, 3) := by decide +kernel
theorem dX5_addTourist_70 : decode cX5_addTourist 70 = .ok (.aload_n 0, 1) := by decide +kernel
theorem dX5_addTourist_71 : decode cX5_addTourist 71 = .ok (.getfield 54, 3) := by decide +kernel
theorem dX5_addTourist_74 : decode cX5_addTourist 74 = .ok (.iload_n 2, 1) := by decide +kernel
theorem dX5_addTourist_75 : decode cX5_addTourist 75 = .ok (.iastore, 1) := by decide +kernel
theorem dX5_addTourist_76 : decode cX5_addTourist 76 = .ok (.aload_n 0, 1) := by decide +kernel
theorem dX5_addTourist_77 : decode cX5_addTourist 77 = .ok (.getfield 25, 3) := by decide +kernel
theorem dX5_addTourist_80 : decode cX5_addTourist 80 = .ok (.aload_n 0, 1) := by decide +kernel
theorem dX5_addTourist_81 : decode cX5_addTourist 81 = .ok (.getfield 54, 3) := by decide +kernel
theorem dX5_addTourist_84 : decode cX5_addTourist 84 = .ok (.aload_n 0, 1) := by decide +kernel
theorem dX5_addTourist_85 : decode cX5_addTourist 85 = .ok (.getfield 31, 3) := by decide +kernel
theorem dX5_addTourist_88 : decode cX5_addTourist 88 = .ok (.iconst 0, 1) := by decide +kernel
theorem dX5_addTourist_89 : decode cX5_addTourist 89 = .ok (.iaload, 1) := by decide +kernel
theorem dX5_addTourist_90 : decode cX5_addTourist 90 = .ok (.iastore, 1) := by decide +kernel
theorem dX5_addTourist_91 : decode cX5_addTourist 91 = .ok (.aload_n 0, 1) := by decide +kernel
theorem dX5_addTourist_92 : decode cX5_addTourist 92 = .ok (.getfield 28, 3) := by decide +kernel
theorem dX5_addTourist_95 : decode cX5_addTourist 95 = .ok (.aload_n 0, 1) := by decide +kernel
theorem dX5_addTourist_96 : decode cX5_addTourist 96 = .ok (.getfield 54, 3) := by decide +kernel
theorem dX5_addTourist_99 : decode cX5_addTourist 99 = .ok (.iload_n 3, 1) := by decide +kernel
theorem dX5_addTourist_100 : decode cX5_addTourist 100 = .ok (.iastore, 1) := by decide +kernel
theorem dX5_addTourist_101 : decode cX5_addTourist 101 = .ok (.aload_n 0, 1) := by decide +kernel
theorem dX5_addTourist_102 : decode cX5_addTourist 102 = .ok (.aload_n 0, 1) := by decide +kernel
theorem dX5_addTourist_103 : decode cX5_addTourist 103 = .ok (.getfield 54, 3) := by decide +kernel
theorem dX5_addTourist_106 : decode cX5_addTourist 106 = .ok (.iconst 0, 1) := by decide +kernel
theorem dX5_addTourist_107 : decode cX5_addTourist 107 = .ok (.iload_n 1, 1) := by decide +kernel
theorem dX5_addTourist_108 : decode cX5_addTourist 108 = .ok (.invokevirtual 97, 3) := by decide +kernel
theorem dX5_addTourist_111 : decode cX5_addTourist 111 = .ok (.aload_n 0, 1) := by decide +kernel
theorem dX5_addTourist_112 : decode cX5_addTourist 112 = .ok (.aload_n 0, 1) := by decide +kernel
theorem dX5_addTourist_113 : decode cX5_addTourist 113 = .ok (.getfield 54, 3) := by decide +kernel
theorem dX5_addTourist_116 : decode cX5_addTourist 116 = .ok (.iconst 1, 1) := by decide +kernel
theorem dX5_addTourist_117 : decode cX5_addTourist 117 = .ok (.iconst (-1), 1) := by decide +kernel
theorem dX5_addTourist_118 : decode cX5_addTourist 118 = .ok (.invokevirtual 97, 3) := by decide +kernel
theorem dX5_addTourist_121 : decode cX5_addTourist 121 = .ok (.aload_n 0, 1) := by decide +kernel
theorem dX5_addTourist_122 : decode cX5_addTourist 122 = .ok (.aload_n 0, 1) := by decide +kernel
theorem dX5_addTourist_123 : decode cX5_addTourist 123 = .ok (.getfield 54, 3) := by decide +kernel
theorem dX5_addTourist_126 : decode cX5_addTourist 126 = .ok (.iconst 4, 1) := by decide +kernel
theorem dX5_addTourist_127 : decode cX5_addTourist 127 = .ok (.iconst (-1), 1) := by decide +kernel
theorem dX5_addTourist_128 : decode cX5_addTourist 128 = .ok (.invokevirtual 97, 3) := by decide +kernel
theorem dX5_addTourist_131 : decode cX5_addTourist 131 = .ok (.aload_n 0, 1) := by decide +kernel
theorem dX5_addTourist_132 : decode cX5_addTourist 132 = .ok (.dup, 1) := by decide +kernel
theorem dX5_addTourist_133 : decode cX5_addTourist 133 = .ok (.getfield 54, 3) := by decide +kernel
theorem dX5_addTourist_136 : decode cX5_addTourist 136 = .ok (.iconst 1, 1) := by decide +kernel
theorem dX5_addTourist_137 : decode cX5_addTourist 137 = .ok (.iadd, 1) := by decide +kernel
theorem dX5_addTourist_138 : decode cX5_addTourist 138 = .ok (.putfield 54, 3) := by decide +kernel
theorem dX5_addTourist_141 : decode cX5_addTourist 141 = .ok (.aload_n 0, 1) := by decide +kernel
theorem dX5_addTourist_142 : decode cX5_addTourist 142 = .ok (.getfield 54, 3) := by decide +kernel
theorem dX5_addTourist_145 : decode cX5_addTourist 145 = .ok (.iconst 1, 1) := by decide +kernel
theorem dX5_addTourist_146 : decode cX5_addTourist 146 = .ok (.isub, 1) := by decide +kernel
theorem dX5_addTourist_147 : decode cX5_addTourist 147 = .ok (.ireturn, 1) := by decide +kernel
theorem dX5_mend_0 : decode cX5_mend 0 = .ok (.aload_n 0, 1) := by decide +kernel
theorem dX5_mend_1 : decode cX5_mend 1 = .ok (.iconst 0, 1) := by decide +kernel
theorem dX5_mend_2 : decode cX5_mend 2 = .ok (.putfield 40, 3) := by decide +kernel
theorem dX5_mend_5 : decode cX5_mend 5 = .ok (.aload_n 0, 1) := by decide +kernel
theorem dX5_mend_6 : decode cX5_mend 6 = .ok (.iload_n 1, 1) := by decide +kernel
theorem dX5_mend_7 : decode cX5_mend 7 = .ok (.invokevirtual 126, 3) := by decide +kernel
theorem dX5_mend_10 : decode cX5_mend 10 = .ok (.ifCond .ne 9, 3) := by decide +kernel
theorem dX5_mend_13 : decode cX5_mend 13 = .ok (.aload_n 0, 1) := by decide +kernel
theorem dX5_mend_14 : decode cX5_mend 14 = .ok (.iconst 1, 1) := by decide +kernel
theorem dX5_mend_15 : decode cX5_mend 15 = .ok (.invokevirtual 116, 3) := by decide +kernel
theorem dX5_mend_18 : decode cX5_mend 18 = .ok (.ireturn, 1) := by decide +kernel
theorem dX5_mend_19 : decode cX5_mend 19 = .ok (.iload_n 2, 1) := by decide +kernel
theorem dX5_mend_20 : decode cX5_mend 20 = .ok (.iconst 1, 1) := by decide +kernel
theorem dX5_mend_21 : decode cX5_mend 21 = .ok (.bipush 20, 2) := by decide +kernel
theorem dX5_mend_23 : decode cX5_mend 23 = .ok (.invokestatic 47, 3) := by decide +kernel
theorem dX5_mend_26 : decode cX5_mend 26 = .ok (.ifCond .ne 9, 3) := by decide +kernel
theorem dX5_mend_29 : decode cX5_mend 29 = .ok (.aload_n 0, 1) := by decide +kernel
theorem dX5_mend_30 : decode cX5_mend 30 = .ok (.iconst 2, 1) := by decide +kernel
theorem dX5_mend_31 : decode cX5_mend 31 = .ok (.invokevirtual 116, 3) := by decide +kernel
theorem dX5_mend_34 : decode cX5_mend 34 = .ok (.ireturn, 1) := by decide +kernel
theorem dX5_mend_35 : decode cX5_mend 35 = .ok (.aload_n 0, 1) := by decide +kernel
theorem dX5_mend_36 : decode cX5_mend 36 = .ok (.iload_n 1, 1) := by decide +kernel
theorem dX5_mend_37 : decode cX5_mend 37 = .ok (.invokevirtual 70, 3) := by decide +kernel
theorem dX5_mend_40 : decode cX5_mend 40 = .ok (.ifCond .ne 9, 3) := by decide +kernel
theorem dX5_mend_43 : decode cX5_mend 43 = .ok (.aload_n 0, 1) := by decide +kernel
theorem dX5_mend_44 : decode cX5_mend 44 = .ok (.iconst 3, 1) := by decide +kernel
theorem dX5_mend_45 : decode cX5_mend 45 = .ok (.invokevirtual 116, 3) := by decide +kernel
theorem dX5_mend_48 : decode cX5_mend 48 = .ok (.ireturn, 1) := by decide +kernel
theorem dX5_mend_49 : decode cX5_mend 49 = .ok (.aload_n 0, 1) := by decide +kernel
theorem dX5_mend_50 : decode cX5_mend 50 = .ok (.iload_n 1, 1) := by decide +kernel
theorem dX5_mend_51 : decode cX5_mend 51 = .ok (.iconst 0, 1) := by decide +kernel
theorem dX5_mend_52 : decode cX5_mend 52 = .ok (.iload_n 2, 1) := by decide +kernel
theorem dX5_mend_53 : decode cX5_mend 53 = .ok (.invokevirtual 90, 3) := by decide +kernel
theorem dX5_mend_56 : decode cX5_mend 56 = .ok (.aload_n 0, 1) := by decide +kernel
theorem dX5_mend_57 : decode cX5_mend 57 = .ok (.iload_n 1, 1) := by decide +kernel
theorem dX5_mend_58 : decode cX5_mend 58 = .ok (.iconst 1, 1) := by decide +kernel
theorem dX5_mend_59 : decode cX5_mend 59 = .ok (.invokevirtual 63, 3) := by decide +kernel
theorem dX5_mend_62 : decode cX5_mend 62 = .ok (.ireturn, 1) := by decide +kernel
theorem dX5_cutKnots_0 : decode cX5_cutKnots 0 = .ok (.aload_n 0, 1) := by decide +kernel
theorem dX5_cutKnots_1 : decode cX5_cutKnots 1 = .ok (.iconst 0, 1) := by decide +kernel
theorem dX5_cutKnots_2 : decode cX5_cutKnots 2 = .ok (.putfield 40, 3) := by decide +kernel
theorem dX5_cutKnots_5 : decode cX5_cutKnots 5 = .ok (.aload_n 0, 1) := by decide +kernel
theorem dX5_cutKnots_6 : decode cX5_cutKnots 6 = .ok (.iload_n 1, 1) := by decide +kernel
theorem dX5_cutKnots_7 : decode cX5_cutKnots 7 = .ok (.invokevirtual 126, 3) := by decide +kernel
theorem dX5_cutKnots_10 : decode cX5_cutKnots 10 = .ok (.ifCond .ne 9, 3) := by decide +kernel
theorem dX5_cutKnots_13 : decode cX5_cutKnots 13 = .ok (.aload_n 0, 1) := by decide +kernel
theorem dX5_cutKnots_14 : decode cX5_cutKnots 14 = .ok (.iconst 1, 1) := by decide +kernel
theorem dX5_cutKnots_15 : decode cX5_cutKnots 15 = .ok (.invokevirtual 116, 3) := by decide +kernel
theorem dX5_cutKnots_18 : decode cX5_cutKnots 18 = .ok (.ireturn, 1) := by decide +kernel
theorem dX5_cutKnots_19 : decode cX5_cutKnots 19 = .ok (.aload_n 0, 1) := by decide +kernel
theorem dX5_cutKnots_20 : decode cX5_cutKnots 20 = .ok (.iload_n 1, 1) := by decide +kernel
theorem dX5_cutKnots_21 : decode cX5_cutKnots 21 = .ok (.invokevirtual 70, 3) := by decide +kernel
theorem dX5_cutKnots_24 : decode cX5_cutKnots 24 = .ok (.ifCond .eq 11, 3) := by decide +kernel
theorem dX5_cutKnots_27 : decode cX5_cutKnots 27 = .ok (.aload_n 0, 1) := by decide +kernel
theorem dX5_cutKnots_28 : decode cX5_cutKnots 28 = .ok (.iload_n 1, 1) := by decide +kernel
theorem dX5_cutKnots_29 : decode cX5_cutKnots 29 = .ok (.invokevirtual 110, 3) := by decide +kernel
theorem dX5_cutKnots_32 : decode cX5_cutKnots 32 = .ok (.ifCond .le 9, 3) := by decide +kernel
theorem dX5_cutKnots_35 : decode cX5_cutKnots 35 = .ok (.aload_n 0, 1) := by decide +kernel
theorem dX5_cutKnots_36 : decode cX5_cutKnots 36 = .ok (.iconst 2, 1) := by decide +kernel
theorem dX5_cutKnots_37 : decode cX5_cutKnots 37 = .ok (.invokevirtual 116, 3) := by decide +kernel
theorem dX5_cutKnots_40 : decode cX5_cutKnots 40 = .ok (.ireturn, 1) := by decide +kernel
theorem dX5_cutKnots_41 : decode cX5_cutKnots 41 = .ok (.aload_n 0, 1) := by decide +kernel
theorem dX5_cutKnots_42 : decode cX5_cutKnots 42 = .ok (.iload_n 1, 1) := by decide +kernel
theorem dX5_cutKnots_43 : decode cX5_cutKnots 43 = .ok (.iconst 2, 1) := by decide +kernel
theorem dX5_cutKnots_44 : decode cX5_cutKnots 44 = .ok (.invokevirtual 63, 3) := by decide +kernel
theorem dX5_cutKnots_47 : decode cX5_cutKnots 47 = .ok (.istore_n 2, 1) := by decide +kernel
theorem dX5_cutKnots_48 : decode cX5_cutKnots 48 = .ok (.aload_n 0, 1) := by decide +kernel
theorem dX5_cutKnots_49 : decode cX5_cutKnots 49 = .ok (.iload_n 1, 1) := by decide +kernel
theorem dX5_cutKnots_50 : decode cX5_cutKnots 50 = .ok (.iconst 2, 1) := by decide +kernel
theorem dX5_cutKnots_51 : decode cX5_cutKnots 51 = .ok (.iconst 0, 1) := by decide +kernel
theorem dX5_cutKnots_52 : decode cX5_cutKnots 52 = .ok (.invokevirtual 90, 3) := by decide +kernel
theorem dX5_cutKnots_55 : decode cX5_cutKnots 55 = .ok (.iload_n 2, 1) := by decide +kernel
theorem dX5_cutKnots_56 : decode cX5_cutKnots 56 = .ok (.ireturn, 1) := by decide +kernel
theorem dX5_came_0 : decode cX5_came 0 = .ok (.iconst 0, 1) := by decide +kernel
