theorem dX4_init_0 : decode cX4_init 0 = .ok (.aload_n 0, 1) := by decide +kernel
theorem dX4_init_1 : decode cX4_init 1 = .ok (.invokespecial 1, 3) := by decide +kernel
theorem dX4_init_4 : decode cX4_init 4 = .ok (.aload_n 0, 1) := by decide +kernel
theorem dX4_init_5 : decode cX4_init 5 = .ok (.new 7, 3) := by decide +kernel
theorem dX4_init_8 : decode cX4_init 8 = .ok (.dup, 1) := by decide +kernel
theorem dX4_init_9 : decode cX4_init 9 = .ok (.invokespecial 9, 3) := by decide +kernel
theorem dX4_init_12 : decode cX4_init 12 = .ok (.putfield 10, 3) := by decide +kernel
theorem dX4_init_15 : decode cX4_init 15 = .ok (.aload_n 0, 1) := by decide +kernel
theorem dX4_init_16 : decode cX4_init 16 = .ok (.new 7, 3) := by decide +kernel
theorem dX4_init_19 : decode cX4_init 19 = .ok (.dup, 1) := by decide +kernel
theorem dX4_init_20 : decode cX4_init 20 = .ok (.invokespecial 9, 3) := by decide +kernel
theorem dX4_init_23 : decode cX4_init 23 = .ok (.putfield 16, 3) := by decide +kernel
theorem dX4_init_26 : decode cX4_init 26 = .ok (.aload_n 0, 1) := by decide +kernel
theorem dX4_init_27 : decode cX4_init 27 = .ok (.new 19, 3) := by decide +kernel
theorem dX4_init_30 : decode cX4_init 30 = .ok (.dup, 1) := by decide +kernel
theorem dX4_init_31 : decode cX4_init 31 = .ok (.invokespecial 21, 3) := by decide +kernel
theorem dX4_init_34 : decode cX4_init 34 = .ok (.putfield 22, 3) := by decide +kernel
theorem dX4_init_37 : decode cX4_init 37 = .ok (.return_, 1) := by decide +kernel
theorem dX4_addCrossing_0 : decode cX4_addCrossing 0 = .ok (.aload_n 0, 1) := by decide +kernel
theorem dX4_addCrossing_1 : decode cX4_addCrossing 1 = .ok (.getfield 10, 3) := by decide +kernel
theorem dX4_addCrossing_4 : decode cX4_addCrossing 4 = .ok (.getfield 26, 3) := by decide +kernel
theorem dX4_addCrossing_7 : decode cX4_addCrossing 7 = .ok (.bipush 10, 2) := by decide +kernel
theorem dX4_addCrossing_9 : decode cX4_addCrossing 9 = .ok (.if_icmp .lt 13, 3) := by decide +kernel
theorem dX4_addCrossing_12 : decode cX4_addCrossing 12 = .ok (.new 30, 3) := by decide +kernel
theorem dX4_addCrossing_15 : decode cX4_addCrossing 15 = .ok (.dup, 1) := by decide +kernel
theorem dX4_addCrossing_16 : decode cX4_addCrossing 16 = .ok (.ldc 32, 2) := by decide +kernel
theorem dX4_addCrossing_18 : decode cX4_addCrossing 18 = .ok (.invokespecial 34, 3) := by decide +kernel
theorem dX4_addCrossing_21 : decode cX4_addCrossing 21 = .ok (.athrow, 1) := by decide +kernel
theorem dX4_addCrossing_22 : decode cX4_addCrossing 22 = .ok (.aload_n 0, 1) := by decide +kernel
theorem dX4_addCrossing_23 : decode cX4_addCrossing 23 = .ok (.getfield 10, 3) := by decide +kernel
theorem dX4_addCrossing_26 : decode cX4_addCrossing 26 = .ok (.invokevirtual 37, 3) := by decide +kernel
theorem dX4_addCrossing_29 : decode cX4_addCrossing 29 = .ok (.ireturn, 1) := by decide +kernel
theorem dX4_addRoad_0 : decode cX4_addRoad 0 = .ok (.aload_n 0, 1) := by decide +kernel
theorem dX4_addRoad_1 : decode cX4_addRoad 1 = .ok (.iload_n 1, 1) := by decide +kernel
theorem dX4_addRoad_2 : decode cX4_addRoad 2 = .ok (.invokevirtual 41, 3) := by decide +kernel
theorem dX4_addRoad_5 : decode cX4_addRoad 5 = .ok (.aload_n 0, 1) := by decide +kernel
theorem dX4_addRoad_6 : decode cX4_addRoad 6 = .ok (.iload_n 2, 1) := by decide +kernel
theorem dX4_addRoad_7 : decode cX4_addRoad 7 = .ok (.invokevirtual 41, 3) := by decide +kernel
theorem dX4_addRoad_10 : decode cX4_addRoad 10 = .ok (.iload_n 1, 1) := by decide +kernel
theorem dX4_addRoad_11 : decode cX4_addRoad 11 = .ok (.iload_n 2, 1) := by decide +kernel
theorem dX4_addRoad_12 : decode cX4_addRoad 12 = .ok (.if_icmp .ne 13, 3) := by decide +kernel
theorem dX4_addRoad_15 : decode cX4_addRoad 15 = .ok (.new 45, 3) := by decide +kernel
theorem dX4_addRoad_18 : decode cX4_addRoad 18 = .ok (.dup, 1) := by decide +kernel
theorem dX4_addRoad_19 : decode cX4_addRoad 19 = .ok (.ldc 47, 2) := by decide +kernel
theorem dX4_addRoad_21 : decode cX4_addRoad 21 = .ok (.invokespecial 49, 3) := by decide +kernel
theorem dX4_addRoad_24 : decode cX4_addRoad 24 = .ok (.athrow, 1) := by decide +kernel
theorem dX4_addRoad_25 : decode cX4_addRoad 25 = .ok (.iload_n 3, 1) := by decide +kernel
theorem dX4_addRoad_26 : decode cX4_addRoad 26 = .ok (.iconst 1, 1) := by decide +kernel
theorem dX4_addRoad_27 : decode cX4_addRoad 27 = .ok (.if_icmp .lt 9, 3) := by decide +kernel
theorem dX4_addRoad_30 : decode cX4_addRoad 30 = .ok (.iload_n 3, 1) := by decide +kernel
theorem dX4_addRoad_31 : decode cX4_addRoad 31 = .ok (.bipush 9, 2) := by decide +kernel
theorem dX4_addRoad_33 : decode cX4_addRoad 33 = .ok (.if_icmp .le 13, 3) := by decide +kernel
theorem dX4_addRoad_36 : decode cX4_addRoad 36 = .ok (.new 45, 3) := by decide +kernel
theorem dX4_addRoad_39 : decode cX4_addRoad 39 = .ok (.dup, 1) := by decide +kernel
theorem dX4_addRoad_40 : decode cX4_addRoad 40 = .ok (.ldc 50, 2) := by decide +kernel
theorem dX4_addRoad_42 : decode cX4_addRoad 42 = .ok (.invokespecial 49, 3) := by decide +kernel
theorem dX4_addRoad_45 : decode cX4_addRoad 45 = .ok (.athrow, 1) := by decide +kernel
theorem dX4_addRoad_46 : decode cX4_addRoad 46 = .ok (.iload 4, 2) := by decide +kernel
theorem dX4_addRoad_48 : decode cX4_addRoad 48 = .ok (.ifCond .lt 9, 3) := by decide +kernel
theorem dX4_addRoad_51 : decode cX4_addRoad 51 = .ok (.iload 4, 2) := by decide +kernel
theorem dX4_addRoad_53 : decode cX4_addRoad 53 = .ok (.iconst 3, 1) := by decide +kernel
theorem dX4_addRoad_54 : decode cX4_addRoad 54 = .ok (.if_icmp .le 13, 3) := by decide +kernel
theorem dX4_addRoad_57 : decode cX4_addRoad 57 = .ok (.new 45, 3) := by decide +kernel
theorem dX4_addRoad_60 : decode cX4_addRoad 60 = .ok (.dup, 1) := by decide +kernel
theorem dX4_addRoad_61 : decode cX4_addRoad 61 = .ok (.ldc 52, 2) := by decide +kernel
theorem dX4_addRoad_63 : decode cX4_addRoad 63 = .ok (.invokespecial 49, 3) := by decide +kernel
theorem dX4_addRoad_66 : decode cX4_addRoad 66 = .ok (.athrow, 1) := by decide +kernel
theorem dX4_addRoad_67 : decode cX4_addRoad 67 = .ok (.aload_n 0, 1) := by decide +kernel
theorem dX4_addRoad_68 : decode cX4_addRoad 68 = .ok (.getfield 10, 3) := by decide +kernel
theorem dX4_addRoad_71 : decode cX4_addRoad 71 = .ok (.getfield 54, 3) := by decide +kernel
theorem dX4_addRoad_74 : decode cX4_addRoad 74 = .ok (.getfield 58, 3) := by decide +kernel
theorem dX4_addRoad_77 : decode cX4_addRoad 77 = .ok (.bipush 20, 2) := by decide +kernel
theorem dX4_addRoad_79 : decode cX4_addRoad 79 = .ok (.if_icmp .lt 13, 3) := by decide +kernel
theorem dX4_addRoad_82 : decode cX4_addRoad 82 = .ok (.new 30, 3) := by decide +kernel
theorem dX4_addRoad_85 : decode cX4_addRoad 85 = .ok (.dup, 1) := by decide +kernel
theorem dX4_addRoad_86 : decode cX4_addRoad 86 = .ok (.ldc 63, 2) := by decide +kernel
theorem dX4_addRoad_88 : decode cX4_addRoad 88 = .ok (.invokespecial 34, 3) := by decide +kernel
theorem dX4_addRoad_91 : decode cX4_addRoad 91 = .ok (.athrow, 1) := by decide +kernel
theorem dX4_addRoad_92 : decode cX4_addRoad 92 = .ok (.aload_n 0, 1) := by decide +kernel
theorem dX4_addRoad_93 : decode cX4_addRoad 93 = .ok (.getfield 10, 3) := by decide +kernel
theorem dX4_addRoad_96 : decode cX4_addRoad 96 = .ok (.iload_n 1, 1) := by decide +kernel
theorem dX4_addRoad_97 : decode cX4_addRoad 97 = .ok (.iload_n 2, 1) := by decide +kernel
theorem dX4_addRoad_98 : decode cX4_addRoad 98 = .ok (.iload_n 3, 1) := by decide +kernel
theorem dX4_addRoad_99 : decode cX4_addRoad 99 = .ok (.iload 4, 2) := by decide +kernel
theorem dX4_addRoad_101 : decode cX4_addRoad 101 = .ok (.invokevirtual 65, 3) := by decide +kernel
theorem dX4_addRoad_104 : decode cX4_addRoad 104 = .ok (.ireturn, 1) := by decide +kernel
theorem dX4_addTourist_0 : decode cX4_addTourist 0 = .ok (.aload_n 0, 1) := by decide +kernel
theorem dX4_addTourist_1 : decode cX4_addTourist 1 = .ok (.iload_n 1, 1) := by decide +kernel
theorem dX4_addTourist_2 : decode cX4_addTourist 2 = .ok (.invokevirtual 41, 3) := by decide +kernel
theorem dX4_addTourist_5 : decode cX4_addTourist 5 = .ok (.aload_n 0, 1) := by decide +kernel
theorem dX4_addTourist_6 : decode cX4_addTourist 6 = .ok (.iload_n 2, 1) := by decide +kernel
theorem dX4_addTourist_7 : decode cX4_addTourist 7 = .ok (.invokevirtual 41, 3) := by decide +kernel
theorem dX4_addTourist_10 : decode cX4_addTourist 10 = .ok (.iload_n 1, 1) := by decide +kernel
theorem dX4_addTourist_11 : decode cX4_addTourist 11 = .ok (.iload_n 2, 1) := by decide +kernel
theorem dX4_addTourist_12 : decode cX4_addTourist 12 = .ok (.if_icmp .ne 13, 3) := by decide +kernel
theorem dX4_addTourist_15 : decode cX4_addTourist 15 = .ok (.new 45, 3) := by decide +kernel
theorem dX4_addTourist_18 : decode cX4_addTourist 18 = .ok (.dup, 1) := by decide +kernel
theorem dX4_addTourist_19 : decode cX4_addTourist 19 = .ok (.ldc 47, 2) := by decide +kernel
theorem dX4_addTourist_21 : decode cX4_addTourist 21 = .ok (.invokespecial 49, 3) := by decide +kernel
theorem dX4_addTourist_24 : decode cX4_addTourist 24 = .ok (.athrow, 1) := by decide +kernel
theorem dX4_addTourist_25 : decode cX4_addTourist 25 = .ok (.aload_n 0, 1) := by decide +kernel
theorem dX4_addTourist_26 : decode cX4_addTourist 26 = .ok (.getfield 10, 3) := by decide +kernel
theorem dX4_addTourist_29 : decode cX4_addTourist 29 = .ok (.getfield 69, 3) := by decide +kernel
theorem dX4_addTourist_32 : decode cX4_addTourist 32 = .ok (.getfield 73, 3) := by decide +kernel
theorem dX4_addTourist_35 : decode cX4_addTourist 35 = .ok (.bipush 12, 2) := by decide +kernel
theorem dX4_addTourist_37 : decode cX4_addTourist 37 = .ok (.if_icmp .lt 13, 3) := by decide +kernel
theorem dX4_addTourist_40 : decode cX4_addTourist 40 = .ok (.new 30, 3) := by decide +kernel
theorem dX4_addTourist_43 : decode cX4_addTourist 43 = .ok (.dup, 1) := by decide +kernel
theorem dX4_addTourist_44 : decode cX4_addTourist 44 = .ok (.ldc 76, 2) := by decide +kernel
theorem dX4_addTourist_46 : decode cX4_addTourist 46 = .ok (.invokespecial 34, 3) := by decide +kernel
theorem dX4_addTourist_49 : decode cX4_addTourist 49 = .ok (.athrow, 1) := by decide +kernel
theorem dX4_addTourist_50 : decode cX4_addTourist 50 = .ok (.aload_n 0, 1) := by decide +kernel
theorem dX4_addTourist_51 : decode cX4_addTourist 51 = .ok (.iload_n 1, 1) := by decide +kernel
theorem dX4_addTourist_52 : decode cX4_addTourist 52 = .ok (.iload_n 2, 1) := by decide +kernel
theorem dX4_addTourist_53 : decode cX4_addTourist 53 = .ok (.invokevirtual 78, 3) := by decide +kernel
theorem dX4_addTourist_56 : decode cX4_addTourist 56 = .ok (.istore_n 3, 1) := by decide +kernel
theorem dX4_addTourist_57 : decode cX4_addTourist 57 = .ok (.iload_n 3, 1) := by decide +kernel
theorem dX4_addTourist_58 : decode cX4_addTourist 58 = .ok (.ifCond .ge 13, 3) := by decide +kernel
theorem dX4_addTourist_61 : decode cX4_addTourist 61 = .ok (.new 30, 3) := by decide +kernel
theorem dX4_addTourist_64 : decode cX4_addTourist 64 = .ok (.dup, 1) := by decide +kernel
theorem dX4_addTourist_65 : decode cX4_addTourist 65 = .ok (.ldc 82, 2) := by decide +kernel
theorem dX4_addTourist_67 : decode cX4_addTourist 67 = .ok (.invokespecial 34, 3) := by decide +kernel
theorem dX4_addTourist_70 : decode cX4_addTourist 70 = .ok (.athrow, 1) := by decide +kernel
theorem dX4_addTourist_71 : decode cX4_addTourist 71 = .ok (.aload_n 0, 1) := by decide +kernel
theorem dX4_addTourist_72 : decode cX4_addTourist 72 = .ok (.getfield 10, 3) := by decide +kernel
theorem dX4_addTourist_75 : decode cX4_addTourist 75 = .ok (.getfield 69, 3) := by decide +kernel
theorem dX4_addTourist_78 : decode cX4_addTourist 78 = .ok (.iload_n 1, 1) := by decide +kernel
theorem dX4_addTourist_79 : decode cX4_addTourist 79 = .ok (.iload_n 2, 1) := by decide +kernel
theorem dX4_addTourist_80 : decode cX4_addTourist 80 = .ok (.iload_n 3, 1) := by decide +kernel
theorem dX4_addTourist_81 : decode cX4_addTourist 81 = .ok (.aload_n 0, 1) := by decide +kernel
theorem dX4_addTourist_82 : decode cX4_addTourist 82 = .ok (.getfield 10, 3) := by decide +kernel
theorem dX4_addTourist_85 : decode cX4_addTourist 85 = .ok (.getfield 84, 3) := by decide +kernel
theorem dX4_addTourist_88 : decode cX4_addTourist 88 = .ok (.invokevirtual 87, 3) := by decide +kernel
theorem dX4_addTourist_91 : decode cX4_addTourist 91 = .ok (.ireturn, 1) := by decide +kernel
theorem dX4_mend_0 : decode cX4_mend 0 = .ok (.aload_n 0, 1) := by decide +kernel
theorem dX4_mend_1 : decode cX4_mend 1 = .ok (.iload_n 1, 1) := by decide +kernel
theorem dX4_mend_2 : decode cX4_mend 2 = .ok (.invokevirtual 90, 3) := by decide +kernel
theorem dX4_mend_5 : decode cX4_mend 5 = .ok (.iload_n 2, 1) := by decide +kernel
theorem dX4_mend_6 : decode cX4_mend 6 = .ok (.iconst 1, 1) := by decide +kernel
theorem dX4_mend_7 : decode cX4_mend 7 = .ok (.if_icmp .lt 9, 3) := by decide +kernel
theorem dX4_mend_10 : decode cX4_mend 10 = .ok (.iload_n 2, 1) := by decide +kernel
theorem dX4_mend_11 : decode cX4_mend 11 = .ok (.bipush 20, 2) := by decide +kernel
theorem dX4_mend_13 : decode cX4_mend 13 = .ok (.if_icmp .le 13, 3) := by decide +kernel
theorem dX4_mend_16 : decode cX4_mend 16 = .ok (.new 45, 3) := by decide +kernel
theorem dX4_mend_19 : decode cX4_mend 19 = .ok (.dup, 1) := by decide +kernel
theorem dX4_mend_20 : decode cX4_mend 20 = .ok (.ldc 93, 2) := by decide +kernel
theorem dX4_mend_22 : decode cX4_mend 22 = .ok (.invokespecial 49, 3) := by decide +kernel
theorem dX4_mend_25 : decode cX4_mend 25 = .ok (.athrow, 1) := by decide +kernel
theorem dX4_mend_26 : decode cX4_mend 26 = .ok (.aload_n 0, 1) := by decide +kernel
theorem dX4_mend_27 : decode cX4_mend 27 = .ok (.getfield 10, 3) := by decide +kernel
theorem dX4_mend_30 : decode cX4_mend 30 = .ok (.getfield 54, 3) := by decide +kernel
theorem dX4_mend_33 : decode cX4_mend 33 = .ok (.getfield 95, 3) := by decide +kernel
theorem dX4_mend_36 : decode cX4_mend 36 = .ok (.iload_n 1, 1) := by decide +kernel
theorem dX4_mend_37 : decode cX4_mend 37 = .ok (.iaload, 1) := by decide +kernel
theorem dX4_mend_38 : decode cX4_mend 38 = .ok (.ifCond .le 13, 3) := by decide +kernel
theorem dX4_mend_41 : decode cX4_mend 41 = .ok (.new 30, 3) := by decide +kernel
theorem dX4_mend_44 : decode cX4_mend 44 = .ok (.dup, 1) := by decide +kernel
theorem dX4_mend_45 : decode cX4_mend 45 = .ok (.ldc 99, 2) := by decide +kernel
theorem dX4_mend_47 : decode cX4_mend 47 = .ok (.invokespecial 34, 3) := by decide +kernel
theorem dX4_mend_50 : decode cX4_mend 50 = .ok (.athrow, 1) := by decide +kernel
theorem dX4_mend_51 : decode cX4_mend 51 = .ok (.aload_n 0, 1) := by decide +kernel
theorem dX4_mend_52 : decode cX4_mend 52 = .ok (.getfield 10, 3) := by decide +kernel
theorem dX4_mend_55 : decode cX4_mend 55 = .ok (.iload_n 1, 1) := by decide +kernel
theorem dX4_mend_56 : decode cX4_mend 56 = .ok (.iload_n 2, 1) := by decide +kernel
theorem dX4_mend_57 : decode cX4_mend 57 = .ok (.invokevirtual 101, 3) := by decide +kernel
theorem dX4_mend_60 : decode cX4_mend 60 = .ok (.aload_n 0, 1) := by decide +kernel
theorem dX4_mend_61 : decode cX4_mend 61 = .ok (.getfield 10, 3) := by decide +kernel
theorem dX4_mend_64 : decode cX4_mend 64 = .ok (.getfield 54, 3) := by decide +kernel
theorem dX4_mend_67 : decode cX4_mend 67 = .ok (.getfield 105, 3) := by decide +kernel
theorem dX4_mend_70 : decode cX4_mend 70 = .ok (.iload_n 1, 1) := by decide +kernel
theorem dX4_mend_71 : decode cX4_mend 71 = .ok (.iaload, 1) := by decide +kernel
theorem dX4_mend_72 : decode cX4_mend 72 = .ok (.ireturn, 1) := by decide +kernel
theorem dX4_cutKnots_0 : decode cX4_cutKnots 0 = .ok (.aload_n 0, 1) := by decide +kernel
theorem dX4_cutKnots_1 : decode cX4_cutKnots 1 = .ok (.iload_n 1, 1) := by decide +kernel
theorem dX4_cutKnots_2 : decode cX4_cutKnots 2 = .ok (.invokevirtual 90, 3) := by decide +kernel
theorem dX4_cutKnots_5 : decode cX4_cutKnots 5 = .ok (.aload_n 0, 1) := by decide +kernel
theorem dX4_cutKnots_6 : decode cX4_cutKnots 6 = .ok (.getfield 10, 3) := by decide +kernel
theorem dX4_cutKnots_9 : decode cX4_cutKnots 9 = .ok (.getfield 54, 3) := by decide +kernel
theorem dX4_cutKnots_12 : decode cX4_cutKnots 12 = .ok (.getfield 95, 3) := by decide +kernel
theorem dX4_cutKnots_15 : decode cX4_cutKnots 15 = .ok (.iload_n 1, 1) := by decide +kernel
theorem dX4_cutKnots_16 : decode cX4_cutKnots 16 = .ok (.iaload, 1) := by decide +kernel
theorem dX4_cutKnots_17 : decode cX4_cutKnots 17 = .ok (.ifCond .le 13, 3) := by decide +kernel
theorem dX4_cutKnots_20 : decode cX4_cutKnots 20 = .ok (.new 30, 3) := by decide +kernel
theorem dX4_cutKnots_23 : decode cX4_cutKnots 23 = .ok (.dup, 1) := by decide +kernel
theorem dX4_cutKnots_24 : decode cX4_cutKnots 24 = .ok (.ldc 99, 2) := by decide +kernel
theorem dX4_cutKnots_26 : decode cX4_cutKnots 26 = .ok (.invokespecial 34, 3) := by decide +kernel
theorem dX4_cutKnots_29 : decode cX4_cutKnots 29 = .ok (.athrow, 1) := by decide +kernel
theorem dX4_cutKnots_30 : decode cX4_cutKnots 30 = .ok (.aload_n 0, 1) := by decide +kernel
theorem dX4_cutKnots_31 : decode cX4_cutKnots 31 = .ok (.getfield 10, 3) := by decide +kernel
theorem dX4_cutKnots_34 : decode cX4_cutKnots 34 = .ok (.getfield 69, 3) := by decide +kernel
theorem dX4_cutKnots_37 : decode cX4_cutKnots 37 = .ok (.iload_n 1, 1) := by decide +kernel
theorem dX4_cutKnots_38 : decode cX4_cutKnots 38 = .ok (.invokevirtual 108, 3) := by decide +kernel
theorem dX4_cutKnots_41 : decode cX4_cutKnots 41 = .ok (.ifCond .le 13, 3) := by decide +kernel
theorem dX4_cutKnots_44 : decode cX4_cutKnots 44 = .ok (.new 30, 3) := by decide +kernel
theorem dX4_cutKnots_47 : decode cX4_cutKnots 47 = .ok (.dup, 1) := by decide +kernel
theorem dX4_cutKnots_48 : decode cX4_cutKnots 48 = .ok (.ldc 112, 2) := by decide +kernel
theorem dX4_cutKnots_50 : decode cX4_cutKnots 50 = .ok (.invokespecial 34, 3) := by decide +kernel
theorem dX4_cutKnots_53 : decode cX4_cutKnots 53 = .ok (.athrow, 1) := by decide +kernel
theorem dX4_cutKnots_54 : decode cX4_cutKnots 54 = .ok (.aload_n 0, 1) := by decide +kernel
theorem dX4_cutKnots_55 : decode cX4_cutKnots 55 = .ok (.getfield 10, 3) := by decide +kernel
theorem dX4_cutKnots_58 : decode cX4_cutKnots 58 = .ok (.iload_n 1, 1) := by decide +kernel
theorem dX4_cutKnots_59 : decode cX4_cutKnots 59 = .ok (.invokevirtual 114, 3) := by decide +kernel
theorem dX4_cutKnots_62 : decode cX4_cutKnots 62 = .ok (.ireturn, 1) := by decide +kernel
theorem dX4_pass_0 : decode cX4_pass 0 = .ok (.aload_n 0, 1) := by decide +kernel
theorem dX4_pass_1 : decode cX4_pass 1 = .ok (.iload_n 1, 1) := by decide +kernel
theorem dX4_pass_2 : decode cX4_pass 2 = .ok (.invokevirtual 117, 3) := by decide +kernel
theorem dX4_pass_5 : decode cX4_pass 5 = .ok (.aload_n 0, 1) := by decide +kernel
theorem dX4_pass_6 : decode cX4_pass 6 = .ok (.getfield 10, 3) := by decide +kernel
theorem dX4_pass_9 : decode cX4_pass 9 = .ok (.getfield 69, 3) := by decide +kernel
theorem dX4_pass_12 : decode cX4_pass 12 = .ok (.getfield 120, 3) := by decide +kernel
theorem dX4_pass_15 : decode cX4_pass 15 = .ok (.istore_n 2, 1) := by decide +kernel
theorem dX4_pass_16 : decode cX4_pass 16 = .ok (.iconst 0, 1) := by decide +kernel
theorem dX4_pass_17 : decode cX4_pass 17 = .ok (.istore_n 3, 1) := by decide +kernel
theorem dX4_pass_18 : decode cX4_pass 18 = .ok (.iload_n 3, 1) := by decide +kernel
theorem dX4_pass_19 : decode cX4_pass 19 = .ok (.iload_n 1, 1) := by decide +kernel
theorem dX4_pass_20 : decode cX4_pass 20 = .ok (.if_icmp .ge 16, 3) := by decide +kernel
theorem dX4_pass_23 : decode cX4_pass 23 = .ok (.aload_n 0, 1) := by decide +kernel
theorem dX4_pass_24 : decode cX4_pass 24 = .ok (.getfield 10, 3) := by decide +kernel
theorem dX4_pass_27 : decode cX4_pass 27 = .ok (.invokevirtual 123, 3) := by decide +kernel
theorem dX4_pass_30 : decode cX4_pass 30 = .ok (.iinc 3 1, 3) := by decide +kernel
theorem dX4_pass_33 : decode cX4_pass 33 = .ok (.goto (-15), 3) := by decide +kernel
theorem dX4_pass_36 : decode cX4_pass 36 = .ok (.aload_n 0, 1) := by decide +kernel
theorem dX4_pass_37 : decode cX4_pass 37 = .ok (.getfield 10, 3) := by decide +kernel
theorem dX4_pass_40 : decode cX4_pass 40 = .ok (.getfield 69, 3) := by decide +kernel
theorem dX4_pass_43 : decode cX4_pass 43 = .ok (.getfield 120, 3) := by decide +kernel
theorem dX4_pass_46 : decode cX4_pass 46 = .ok (.iload_n 2, 1) := by decide +kernel
theorem dX4_pass_47 : decode cX4_pass 47 = .ok (.isub, 1) := by decide +kernel
theorem dX4_pass_48 : decode cX4_pass 48 = .ok (.ireturn, 1) := by decide +kernel
theorem dX4_hour_0 : decode cX4_hour 0 = .ok (.aload_n 0, 1) := by decide +kernel
theorem dX4_hour_1 : decode cX4_hour 1 = .ok (.getfield 10, 3) := by decide +kernel
theorem dX4_hour_4 : decode cX4_hour 4 = .ok (.getfield 84, 3) := by decide +kernel
theorem dX4_hour_7 : decode cX4_hour 7 = .ok (.ireturn, 1) := by decide +kernel
theorem dX4_crossings_0 : decode cX4_crossings 0 = .ok (.aload_n 0, 1) := by decide +kernel
theorem dX4_crossings_1 : decode cX4_crossings 1 = .ok (.getfield 10, 3) := by decide +kernel
theorem dX4_crossings_4 : decode cX4_crossings 4 = .ok (.getfield 26, 3) := by decide +kernel
theorem dX4_crossings_7 : decode cX4_crossings 7 = .ok (.ireturn, 1) := by decide +kernel
theorem dX4_roads_0 : decode cX4_roads 0 = .ok (.aload_n 0, 1) := by decide +kernel
theorem dX4_roads_1 : decode cX4_roads 1 = .ok (.getfield 10, 3) := by decide +kernel
theorem dX4_roads_4 : decode cX4_roads 4 = .ok (.getfield 54, 3) := by decide +kernel
theorem dX4_roads_7 : decode cX4_roads 7 = .ok (.getfield 58, 3) := by decide +kernel
theorem dX4_roads_10 : decode cX4_roads 10 = .ok (.ireturn, 1) := by decide +kernel
theorem dX4_tourists_0 : decode cX4_tourists 0 = .ok (.aload_n 0, 1) := by decide +kernel
theorem dX4_tourists_1 : decode cX4_tourists 1 = .ok (.getfield 10, 3) := by decide +kernel
theorem dX4_tourists_4 : decode cX4_tourists 4 = .ok (.getfield 69, 3) := by decide +kernel
theorem dX4_tourists_7 : decode cX4_tourists 7 = .ok (.getfield 73, 3) := by decide +kernel
theorem dX4_tourists_10 : decode cX4_tourists 10 = .ok (.ireturn, 1) := by decide +kernel
theorem dX4_arrived_0 : decode cX4_arrived 0 = .ok (.aload_n 0, 1) := by decide +kernel
theorem dX4_arrived_1 : decode cX4_arrived 1 = .ok (.getfield 10, 3) := by decide +kernel
theorem dX4_arrived_4 : decode cX4_arrived 4 = .ok (.getfield 69, 3) := by decide +kernel
theorem dX4_arrived_7 : decode cX4_arrived 7 = .ok (.getfield 120, 3) := by decide +kernel
theorem dX4_arrived_10 : decode cX4_arrived 10 = .ok (.ireturn, 1) := by decide +kernel
theorem dX4_closedRoads_0 : decode cX4_closedRoads 0 = .ok (.aload_n 0, 1) := by decide +kernel
theorem dX4_closedRoads_1 : decode cX4_closedRoads 1 = .ok (.getfield 10, 3) := by decide +kernel
theorem dX4_closedRoads_4 : decode cX4_closedRoads 4 = .ok (.getfield 54, 3) := by decide +kernel
theorem dX4_closedRoads_7 : decode cX4_closedRoads 7 = .ok (.invokevirtual 126, 3) := by decide +kernel
theorem dX4_closedRoads_10 : decode cX4_closedRoads 10 = .ok (.ireturn, 1) := by decide +kernel
theorem dX4_allFrayed_0 : decode cX4_allFrayed 0 = .ok (.aload_n 0, 1) := by decide +kernel
theorem dX4_allFrayed_1 : decode cX4_allFrayed 1 = .ok (.getfield 10, 3) := by decide +kernel
theorem dX4_allFrayed_4 : decode cX4_allFrayed 4 = .ok (.getfield 69, 3) := by decide +kernel
theorem dX4_allFrayed_7 : decode cX4_allFrayed 7 = .ok (.invokevirtual 129, 3) := by decide +kernel
theorem dX4_allFrayed_10 : decode cX4_allFrayed 10 = .ok (.ireturn, 1) := by decide +kernel
theorem dX4_lengthOf_0 : decode cX4_lengthOf 0 = .ok (.aload_n 0, 1) := by decide +kernel
theorem dX4_lengthOf_1 : decode cX4_lengthOf 1 = .ok (.iload_n 1, 1) := by decide +kernel
theorem dX4_lengthOf_2 : decode cX4_lengthOf 2 = .ok (.invokevirtual 90, 3) := by decide +kernel
theorem dX4_lengthOf_5 : decode cX4_lengthOf 5 = .ok (.aload_n 0, 1) := by decide +kernel
theorem dX4_lengthOf_6 : decode cX4_lengthOf 6 = .ok (.getfield 10, 3) := by decide +kernel
theorem dX4_lengthOf_9 : decode cX4_lengthOf 9 = .ok (.getfield 54, 3) := by decide +kernel
theorem dX4_lengthOf_12 : decode cX4_lengthOf 12 = .ok (.iload_n 1, 1) := by decide +kernel
theorem dX4_lengthOf_13 : decode cX4_lengthOf 13 = .ok (.invokevirtual 132, 3) := by decide +kernel
theorem dX4_lengthOf_16 : decode cX4_lengthOf 16 = .ok (.ireturn, 1) := by decide +kernel
theorem dX4_wearOf_0 : decode cX4_wearOf 0 = .ok (.aload_n 0, 1) := by decide +kernel
theorem dX4_wearOf_1 : decode cX4_wearOf 1 = .ok (.iload_n 1, 1) := by decide +kernel
theorem dX4_wearOf_2 : decode cX4_wearOf 2 = .ok (.invokevirtual 90, 3) := by decide +kernel
theorem dX4_wearOf_5 : decode cX4_wearOf 5 = .ok (.aload_n 0, 1) := by decide +kernel
theorem dX4_wearOf_6 : decode cX4_wearOf 6 = .ok (.getfield 10, 3) := by decide +kernel
theorem dX4_wearOf_9 : decode cX4_wearOf 9 = .ok (.getfield 54, 3) := by decide +kernel
theorem dX4_wearOf_12 : decode cX4_wearOf 12 = .ok (.getfield 105, 3) := by decide +kernel
theorem dX4_wearOf_15 : decode cX4_wearOf 15 = .ok (.iload_n 1, 1) := by decide +kernel
theorem dX4_wearOf_16 : decode cX4_wearOf 16 = .ok (.iaload, 1) := by decide +kernel
theorem dX4_wearOf_17 : decode cX4_wearOf 17 = .ok (.ireturn, 1) := by decide +kernel
theorem dX4_knotsOf_0 : decode cX4_knotsOf 0 = .ok (.aload_n 0, 1) := by decide +kernel
theorem dX4_knotsOf_1 : decode cX4_knotsOf 1 = .ok (.iload_n 1, 1) := by decide +kernel
theorem dX4_knotsOf_2 : decode cX4_knotsOf 2 = .ok (.invokevirtual 90, 3) := by decide +kernel
theorem dX4_knotsOf_5 : decode cX4_knotsOf 5 = .ok (.aload_n 0, 1) := by decide +kernel
theorem dX4_knotsOf_6 : decode cX4_knotsOf 6 = .ok (.getfield 10, 3) := by decide +kernel
theorem dX4_knotsOf_9 : decode cX4_knotsOf 9 = .ok (.getfield 54, 3) := by decide +kernel
theorem dX4_knotsOf_12 : decode cX4_knotsOf 12 = .ok (.getfield 135, 3) := by decide +kernel
theorem dX4_knotsOf_15 : decode cX4_knotsOf 15 = .ok (.iload_n 1, 1) := by decide +kernel
theorem dX4_knotsOf_16 : decode cX4_knotsOf 16 = .ok (.iaload, 1) := by decide +kernel
theorem dX4_knotsOf_17 : decode cX4_knotsOf 17 = .ok (.ireturn, 1) := by decide +kernel
theorem dX4_closedFor_0 : decode cX4_closedFor 0 = .ok (.aload_n 0, 1) := by decide +kernel
theorem dX4_closedFor_1 : decode cX4_closedFor 1 = .ok (.iload_n 1, 1) := by decide +kernel
theorem dX4_closedFor_2 : decode cX4_closedFor 2 = .ok (.invokevirtual 90, 3) := by decide +kernel
theorem dX4_closedFor_5 : decode cX4_closedFor 5 = .ok (.aload_n 0, 1) := by decide +kernel
theorem dX4_closedFor_6 : decode cX4_closedFor 6 = .ok (.getfield 10, 3) := by decide +kernel
theorem dX4_closedFor_9 : decode cX4_closedFor 9 = .ok (.getfield 54, 3) := by decide +kernel
theorem dX4_closedFor_12 : decode cX4_closedFor 12 = .ok (.getfield 95, 3) := by decide +kernel
theorem dX4_closedFor_15 : decode cX4_closedFor 15 = .ok (.iload_n 1, 1) := by decide +kernel
theorem dX4_closedFor_16 : decode cX4_closedFor 16 = .ok (.iaload, 1) := by decide +kernel
theorem dX4_closedFor_17 : decode cX4_closedFor 17 = .ok (.ireturn, 1) := by decide +kernel
theorem dX4_touristsOn_0 : decode cX4_touristsOn 0 = .ok (.aload_n 0, 1) := by decide +kernel
theorem dX4_touristsOn_1 : decode cX4_touristsOn 1 = .ok (.iload_n 1, 1) := by decide +kernel
theorem dX4_touristsOn_2 : decode cX4_touristsOn 2 = .ok (.invokevirtual 90, 3) := by decide +kernel
theorem dX4_touristsOn_5 : decode cX4_touristsOn 5 = .ok (.aload_n 0, 1) := by decide +kernel
theorem dX4_touristsOn_6 : decode cX4_touristsOn 6 = .ok (.getfield 10, 3) := by decide +kernel
theorem dX4_touristsOn_9 : decode cX4_touristsOn 9 = .ok (.getfield 69, 3) := by decide +kernel
theorem dX4_touristsOn_12 : decode cX4_touristsOn 12 = .ok (.iload_n 1, 1) := by decide +kernel
theorem dX4_touristsOn_13 : decode cX4_touristsOn 13 = .ok (.invokevirtual 108, 3) := by decide +kernel
theorem dX4_touristsOn_16 : decode cX4_touristsOn 16 = .ok (.ireturn, 1) := by decide +kernel
theorem dX4_mostWorn_0 : decode cX4_mostWorn 0 = .ok (.aload_n 0, 1) := by decide +kernel
theorem dX4_mostWorn_1 : decode cX4_mostWorn 1 = .ok (.getfield 10, 3) := by decide +kernel
theorem dX4_mostWorn_4 : decode cX4_mostWorn 4 = .ok (.getfield 54, 3) := by decide +kernel
theorem dX4_mostWorn_7 : decode cX4_mostWorn 7 = .ok (.invokevirtual 138, 3) := by decide +kernel
theorem dX4_mostWorn_10 : decode cX4_mostWorn 10 = .ok (.ireturn, 1) := by decide +kernel
theorem dX4_openDistance_0 : decode cX4_openDistance 0 = .ok (.aload_n 0, 1) := by decide +kernel
theorem dX4_openDistance_1 : decode cX4_openDistance 1 = .ok (.iload_n 1, 1) := by decide +kernel
theorem dX4_openDistance_2 : decode cX4_openDistance 2 = .ok (.invokevirtual 41, 3) := by decide +kernel
theorem dX4_openDistance_5 : decode cX4_openDistance 5 = .ok (.aload_n 0, 1) := by decide +kernel
theorem dX4_openDistance_6 : decode cX4_openDistance 6 = .ok (.iload_n 2, 1) := by decide +kernel
theorem dX4_openDistance_7 : decode cX4_openDistance 7 = .ok (.invokevirtual 41, 3) := by decide +kernel
theorem dX4_openDistance_10 : decode cX4_openDistance 10 = .ok (.aload_n 0, 1) := by decide +kernel
theorem dX4_openDistance_11 : decode cX4_openDistance 11 = .ok (.getfield 10, 3) := by decide +kernel
theorem dX4_openDistance_14 : decode cX4_openDistance 14 = .ok (.invokevirtual 141, 3) := by decide +kernel
theorem dX4_openDistance_17 : decode cX4_openDistance 17 = .ok (.aload_n 0, 1) := by decide +kernel
theorem dX4_openDistance_18 : decode cX4_openDistance 18 = .ok (.getfield 10, 3) := by decide +kernel
theorem dX4_openDistance_21 : decode cX4_openDistance 21 = .ok (.getfield 144, 3) := by decide +kernel
theorem dX4_openDistance_24 : decode cX4_openDistance 24 = .ok (.iload_n 1, 1) := by decide +kernel
theorem dX4_openDistance_25 : decode cX4_openDistance 25 = .ok (.iload_n 2, 1) := by decide +kernel
theorem dX4_openDistance_26 : decode cX4_openDistance 26 = .ok (.invokevirtual 147, 3) := by decide +kernel
theorem dX4_openDistance_29 : decode cX4_openDistance 29 = .ok (.ireturn, 1) := by decide +kernel
theorem dX4_distance_0 : decode cX4_distance 0 = .ok (.aload_n 0, 1) := by decide +kernel
theorem dX4_distance_1 : decode cX4_distance 1 = .ok (.iload_n 1, 1) := by decide +kernel
theorem dX4_distance_2 : decode cX4_distance 2 = .ok (.invokevirtual 41, 3) := by decide +kernel
theorem dX4_distance_5 : decode cX4_distance 5 = .ok (.aload_n 0, 1) := by decide +kernel
theorem dX4_distance_6 : decode cX4_distance 6 = .ok (.iload_n 2, 1) := by decide +kernel
theorem dX4_distance_7 : decode cX4_distance 7 = .ok (.invokevirtual 41, 3) := by decide +kernel
theorem dX4_distance_10 : decode cX4_distance 10 = .ok (.aload_n 0, 1) := by decide +kernel
theorem dX4_distance_11 : decode cX4_distance 11 = .ok (.getfield 22, 3) := by decide +kernel
theorem dX4_distance_14 : decode cX4_distance 14 = .ok (.aload_n 0, 1) := by decide +kernel
theorem dX4_distance_15 : decode cX4_distance 15 = .ok (.getfield 10, 3) := by decide +kernel
theorem dX4_distance_18 : decode cX4_distance 18 = .ok (.getfield 54, 3) := by decide +kernel
theorem dX4_distance_21 : decode cX4_distance 21 = .ok (.aload_n 0, 1) := by decide +kernel
theorem dX4_distance_22 : decode cX4_distance 22 = .ok (.getfield 10, 3) := by decide +kernel
theorem dX4_distance_25 : decode cX4_distance 25 = .ok (.getfield 26, 3) := by decide +kernel
theorem dX4_distance_28 : decode cX4_distance 28 = .ok (.iconst 0, 1) := by decide +kernel
theorem dX4_distance_29 : decode cX4_distance 29 = .ok (.invokevirtual 150, 3) := by decide +kernel
theorem dX4_distance_32 : decode cX4_distance 32 = .ok (.aload_n 0, 1) := by decide +kernel
theorem dX4_distance_33 : decode cX4_distance 33 = .ok (.getfield 22, 3) := by decide +kernel
theorem dX4_distance_36 : decode cX4_distance 36 = .ok (.iload_n 1, 1) := by decide +kernel
theorem dX4_distance_37 : decode cX4_distance 37 = .ok (.iload_n 2, 1) := by decide +kernel
theorem dX4_distance_38 : decode cX4_distance 38 = .ok (.invokevirtual 147, 3) := by decide +kernel
theorem dX4_distance_41 : decode cX4_distance 41 = .ok (.ireturn, 1) := by decide +kernel
theorem dX4_nextRoad_0 : decode cX4_nextRoad 0 = .ok (.aload_n 0, 1) := by decide +kernel
theorem dX4_nextRoad_1 : decode cX4_nextRoad 1 = .ok (.iload_n 1, 1) := by decide +kernel
theorem dX4_nextRoad_2 : decode cX4_nextRoad 2 = .ok (.invokevirtual 41, 3) := by decide +kernel
theorem dX4_nextRoad_5 : decode cX4_nextRoad 5 = .ok (.aload_n 0, 1) := by decide +kernel
theorem dX4_nextRoad_6 : decode cX4_nextRoad 6 = .ok (.iload_n 2, 1) := by decide +kernel
theorem dX4_nextRoad_7 : decode cX4_nextRoad 7 = .ok (.invokevirtual 41, 3) := by decide +kernel
theorem dX4_nextRoad_10 : decode cX4_nextRoad 10 = .ok (.iload_n 1, 1) := by decide +kernel
theorem dX4_nextRoad_11 : decode cX4_nextRoad 11 = .ok (.iload_n 2, 1) := by decide +kernel
theorem dX4_nextRoad_12 : decode cX4_nextRoad 12 = .ok (.if_icmp .ne 5, 3) := by decide +kernel
theorem dX4_nextRoad_15 : decode cX4_nextRoad 15 = .ok (.iconst (-1), 1) := by decide +kernel
theorem dX4_nextRoad_16 : decode cX4_nextRoad 16 = .ok (.ireturn, 1) := by decide +kernel
theorem dX4_nextRoad_17 : decode cX4_nextRoad 17 = .ok (.aload_n 0, 1) := by decide +kernel
theorem dX4_nextRoad_18 : decode cX4_nextRoad 18 = .ok (.getfield 10, 3) := by decide +kernel
theorem dX4_nextRoad_21 : decode cX4_nextRoad 21 = .ok (.invokevirtual 141, 3) := by decide +kernel
theorem dX4_nextRoad_24 : decode cX4_nextRoad 24 = .ok (.aload_n 0, 1) := by decide +kernel
theorem dX4_nextRoad_25 : decode cX4_nextRoad 25 = .ok (.getfield 10, 3) := by decide +kernel
theorem dX4_nextRoad_28 : decode cX4_nextRoad 28 = .ok (.iload_n 1, 1) := by decide +kernel
theorem dX4_nextRoad_29 : decode cX4_nextRoad 29 = .ok (.iload_n 2, 1) := by decide +kernel
theorem dX4_nextRoad_30 : decode cX4_nextRoad 30 = .ok (.invokevirtual 154, 3) := by decide +kernel
theorem dX4_nextRoad_33 : decode cX4_nextRoad 33 = .ok (.ireturn, 1) := by decide +kernel
theorem dX4_partedPairs_0 : decode cX4_partedPairs 0 = .ok (.aload_n 0, 1) := by decide +kernel
theorem dX4_partedPairs_1 : decode cX4_partedPairs 1 = .ok (.getfield 10, 3) := by decide +kernel
theorem dX4_partedPairs_4 : decode cX4_partedPairs 4 = .ok (.invokevirtual 141, 3) := by decide +kernel
theorem dX4_partedPairs_7 : decode cX4_partedPairs 7 = .ok (.aload_n 0, 1) := by decide +kernel
theorem dX4_partedPairs_8 : decode cX4_partedPairs 8 = .ok (.getfield 10, 3) := by decide +kernel
theorem dX4_partedPairs_11 : decode cX4_partedPairs 11 = .ok (.getfield 144, 3) := by decide +kernel
theorem dX4_partedPairs_14 : decode cX4_partedPairs 14 = .ok (.aload_n 0, 1) := by decide +kernel
theorem dX4_partedPairs_15 : decode cX4_partedPairs 15 = .ok (.getfield 10, 3) := by decide +kernel
theorem dX4_partedPairs_18 : decode cX4_partedPairs 18 = .ok (.getfield 26, 3) := by decide +kernel
theorem dX4_partedPairs_21 : decode cX4_partedPairs 21 = .ok (.invokevirtual 157, 3) := by decide +kernel
theorem dX4_partedPairs_24 : decode cX4_partedPairs 24 = .ok (.ireturn, 1) := by decide +kernel
theorem dX4_placeOf_0 : decode cX4_placeOf 0 = .ok (.aload_n 0, 1) := by decide +kernel
theorem dX4_placeOf_1 : decode cX4_placeOf 1 = .ok (.iload_n 1, 1) := by decide +kernel
theorem dX4_placeOf_2 : decode cX4_placeOf 2 = .ok (.invokevirtual 160, 3) := by decide +kernel
theorem dX4_placeOf_5 : decode cX4_placeOf 5 = .ok (.aload_n 0, 1) := by decide +kernel
theorem dX4_placeOf_6 : decode cX4_placeOf 6 = .ok (.getfield 10, 3) := by decide +kernel
theorem dX4_placeOf_9 : decode cX4_placeOf 9 = .ok (.getfield 69, 3) := by decide +kernel
theorem dX4_placeOf_12 : decode cX4_placeOf 12 = .ok (.getfield 163, 3) := by decide +kernel
theorem dX4_placeOf_15 : decode cX4_placeOf 15 = .ok (.iload_n 1, 1) := by decide +kernel
theorem dX4_placeOf_16 : decode cX4_placeOf 16 = .ok (.iaload, 1) := by decide +kernel
theorem dX4_placeOf_17 : decode cX4_placeOf 17 = .ok (.ireturn, 1) := by decide +kernel
theorem dX4_roadOf_0 : decode cX4_roadOf 0 = .ok (.aload_n 0, 1) := by decide +kernel
theorem dX4_roadOf_1 : decode cX4_roadOf 1 = .ok (.iload_n 1, 1) := by decide +kernel
theorem dX4_roadOf_2 : decode cX4_roadOf 2 = .ok (.invokevirtual 160, 3) := by decide +kernel
theorem dX4_roadOf_5 : decode cX4_roadOf 5 = .ok (.aload_n 0, 1) := by decide +kernel
theorem dX4_roadOf_6 : decode cX4_roadOf 6 = .ok (.getfield 10, 3) := by decide +kernel
theorem dX4_roadOf_9 : decode cX4_roadOf 9 = .ok (.getfield 69, 3) := by decide +kernel
theorem dX4_roadOf_12 : decode cX4_roadOf 12 = .ok (.getfield 166, 3) := by decide +kernel
theorem dX4_roadOf_15 : decode cX4_roadOf 15 = .ok (.iload_n 1, 1) := by decide +kernel
theorem dX4_roadOf_16 : decode cX4_roadOf 16 = .ok (.iaload, 1) := by decide +kernel
theorem dX4_roadOf_17 : decode cX4_roadOf 17 = .ok (.ireturn, 1) := by decide +kernel
theorem dX4_dyeOf_0 : decode cX4_dyeOf 0 = .ok (.aload_n 0, 1) := by decide +kernel
theorem dX4_dyeOf_1 : decode cX4_dyeOf 1 = .ok (.iload_n 1, 1) := by decide +kernel
theorem dX4_dyeOf_2 : decode cX4_dyeOf 2 = .ok (.invokevirtual 160, 3) := by decide +kernel
theorem dX4_dyeOf_5 : decode cX4_dyeOf 5 = .ok (.aload_n 0, 1) := by decide +kernel
theorem dX4_dyeOf_6 : decode cX4_dyeOf 6 = .ok (.getfield 10, 3) := by decide +kernel
theorem dX4_dyeOf_9 : decode cX4_dyeOf 9 = .ok (.getfield 69, 3) := by decide +kernel
theorem dX4_dyeOf_12 : decode cX4_dyeOf 12 = .ok (.getfield 169, 3) := by decide +kernel
theorem dX4_dyeOf_15 : decode cX4_dyeOf 15 = .ok (.iload_n 1, 1) := by decide +kernel
theorem dX4_dyeOf_16 : decode cX4_dyeOf 16 = .ok (.iaload, 1) := by decide +kernel
theorem dX4_dyeOf_17 : decode cX4_dyeOf 17 = .ok (.ireturn, 1) := by decide +kernel
theorem dX4_frayOf_0 : decode cX4_frayOf 0 = .ok (.aload_n 0, 1) := by decide +kernel
theorem dX4_frayOf_1 : decode cX4_frayOf 1 = .ok (.iload_n 1, 1) := by decide +kernel
theorem dX4_frayOf_2 : decode cX4_frayOf 2 = .ok (.invokevirtual 160, 3) := by decide +kernel
theorem dX4_frayOf_5 : decode cX4_frayOf 5 = .ok (.aload_n 0, 1) := by decide +kernel
theorem dX4_frayOf_6 : decode cX4_frayOf 6 = .ok (.getfield 10, 3) := by decide +kernel
theorem dX4_frayOf_9 : decode cX4_frayOf 9 = .ok (.getfield 69, 3) := by decide +kernel
theorem dX4_frayOf_12 : decode cX4_frayOf 12 = .ok (.iload_n 1, 1) := by decide +kernel
theorem dX4_frayOf_13 : decode cX4_frayOf 13 = .ok (.aload_n 0, 1) := by decide +kernel
theorem dX4_frayOf_14 : decode cX4_frayOf 14 = .ok (.getfield 10, 3) := by decide +kernel
theorem dX4_frayOf_17 : decode cX4_frayOf 17 = .ok (.getfield 84, 3) := by decide +kernel
theorem dX4_frayOf_20 : decode cX4_frayOf 20 = .ok (.invokevirtual 172, 3) := by decide +kernel
theorem dX4_frayOf_23 : decode cX4_frayOf 23 = .ok (.ireturn, 1) := by decide +kernel
theorem dX4_hasArrived_0 : decode cX4_hasArrived 0 = .ok (.aload_n 0, 1) := by decide +kernel
theorem dX4_hasArrived_1 : decode cX4_hasArrived 1 = .ok (.iload_n 1, 1) := by decide +kernel
theorem dX4_hasArrived_2 : decode cX4_hasArrived 2 = .ok (.invokevirtual 160, 3) := by decide +kernel
theorem dX4_hasArrived_5 : decode cX4_hasArrived 5 = .ok (.aload_n 0, 1) := by decide +kernel
theorem dX4_hasArrived_6 : decode cX4_hasArrived 6 = .ok (.getfield 10, 3) := by decide +kernel
theorem dX4_hasArrived_9 : decode cX4_hasArrived 9 = .ok (.getfield 69, 3) := by decide +kernel
theorem dX4_hasArrived_12 : decode cX4_hasArrived 12 = .ok (.iload_n 1, 1) := by decide +kernel
theorem dX4_hasArrived_13 : decode cX4_hasArrived 13 = .ok (.invokevirtual 175, 3) := by decide +kernel
theorem dX4_hasArrived_16 : decode cX4_hasArrived 16 = .ok (.ireturn, 1) := by decide +kernel
theorem dX4_hoursUntilArrived_0 : decode cX4_hoursUntilArrived 0 = .ok (.aload_n 0, 1) := by decide +kernel
theorem dX4_hoursUntilArrived_1 : decode cX4_hoursUntilArrived 1 = .ok (.iload_n 1, 1) := by decide +kernel
theorem dX4_hoursUntilArrived_2 : decode cX4_hoursUntilArrived 2 = .ok (.invokevirtual 160, 3) := by decide +kernel
theorem dX4_hoursUntilArrived_5 : decode cX4_hoursUntilArrived 5 = .ok (.aload_n 0, 1) := by decide +kernel
theorem dX4_hoursUntilArrived_6 : decode cX4_hoursUntilArrived 6 = .ok (.iconst (-1), 1) := by decide +kernel
theorem dX4_hoursUntilArrived_7 : decode cX4_hoursUntilArrived 7 = .ok (.bipush 100, 2) := by decide +kernel
theorem dX4_hoursUntilArrived_9 : decode cX4_hoursUntilArrived 9 = .ok (.invokevirtual 179, 3) := by decide +kernel
theorem dX4_hoursUntilArrived_12 : decode cX4_hoursUntilArrived 12 = .ok (.aload_n 0, 1) := by decide +kernel
theorem dX4_hoursUntilArrived_13 : decode cX4_hoursUntilArrived 13 = .ok (.iload_n 1, 1) := by decide +kernel
theorem dX4_hoursUntilArrived_14 : decode cX4_hoursUntilArrived 14 = .ok (.invokevirtual 182, 3) := by decide +kernel
theorem dX4_hoursUntilArrived_17 : decode cX4_hoursUntilArrived 17 = .ok (.ireturn, 1) := by decide +kernel
theorem dX4_frayedIn_0 : decode cX4_frayedIn 0 = .ok (.aload_n 0, 1) := by decide +kernel
theorem dX4_frayedIn_1 : decode cX4_frayedIn 1 = .ok (.iload_n 1, 1) := by decide +kernel
theorem dX4_frayedIn_2 : decode cX4_frayedIn 2 = .ok (.invokevirtual 117, 3) := by decide +kernel
theorem dX4_frayedIn_5 : decode cX4_frayedIn 5 = .ok (.aload_n 0, 1) := by decide +kernel
theorem dX4_frayedIn_6 : decode cX4_frayedIn 6 = .ok (.iconst (-1), 1) := by decide +kernel
theorem dX4_frayedIn_7 : decode cX4_frayedIn 7 = .ok (.iload_n 1, 1) := by decide +kernel
theorem dX4_frayedIn_8 : decode cX4_frayedIn 8 = .ok (.invokevirtual 179, 3) := by decide +kernel
theorem dX4_frayedIn_11 : decode cX4_frayedIn 11 = .ok (.aload_n 0, 1) := by decide +kernel
theorem dX4_frayedIn_12 : decode cX4_frayedIn 12 = .ok (.getfield 16, 3) := by decide +kernel
theorem dX4_frayedIn_15 : decode cX4_frayedIn 15 = .ok (.getfield 69, 3) := by decide +kernel
theorem dX4_frayedIn_18 : decode cX4_frayedIn 18 = .ok (.invokevirtual 129, 3) := by decide +kernel
theorem dX4_frayedIn_21 : decode cX4_frayedIn 21 = .ok (.ireturn, 1) := by decide +kernel
theorem dX4_bestToMend_0 : decode cX4_bestToMend 0 = .ok (.iconst (-1), 1) := by decide +kernel
theorem dX4_bestToMend_1 : decode cX4_bestToMend 1 = .ok (.istore_n 1, 1) := by decide +kernel
theorem dX4_bestToMend_2 : decode cX4_bestToMend 2 = .ok (.aload_n 0, 1) := by decide +kernel
theorem dX4_bestToMend_3 : decode cX4_bestToMend 3 = .ok (.getfield 10, 3) := by decide +kernel
theorem dX4_bestToMend_6 : decode cX4_bestToMend 6 = .ok (.getfield 84, 3) := by decide +kernel
theorem dX4_bestToMend_9 : decode cX4_bestToMend 9 = .ok (.bipush 24, 2) := by decide +kernel
theorem dX4_bestToMend_11 : decode cX4_bestToMend 11 = .ok (.iadd, 1) := by decide +kernel
theorem dX4_bestToMend_12 : decode cX4_bestToMend 12 = .ok (.istore_n 2, 1) := by decide +kernel
theorem dX4_bestToMend_13 : decode cX4_bestToMend 13 = .ok (.aload_n 0, 1) := by decide +kernel
theorem dX4_bestToMend_14 : decode cX4_bestToMend 14 = .ok (.iconst (-1), 1) := by decide +kernel
theorem dX4_bestToMend_15 : decode cX4_bestToMend 15 = .ok (.bipush 24, 2) := by decide +kernel
theorem dX4_bestToMend_17 : decode cX4_bestToMend 17 = .ok (.invokevirtual 179, 3) := by decide +kernel
theorem dX4_bestToMend_20 : decode cX4_bestToMend 20 = .ok (.aload_n 0, 1) := by decide +kernel
theorem dX4_bestToMend_21 : decode cX4_bestToMend 21 = .ok (.getfield 16, 3) := by decide +kernel
theorem dX4_bestToMend_24 : decode cX4_bestToMend 24 = .ok (.getfield 69, 3) := by decide +kernel
theorem dX4_bestToMend_27 : decode cX4_bestToMend 27 = .ok (.iload_n 2, 1) := by decide +kernel
theorem dX4_bestToMend_28 : decode cX4_bestToMend 28 = .ok (.invokevirtual 185, 3) := by decide +kernel
theorem dX4_bestToMend_31 : decode cX4_bestToMend 31 = .ok (.istore_n 3, 1) := by decide +kernel
theorem dX4_bestToMend_32 : decode cX4_bestToMend 32 = .ok (.iconst 0, 1) := by decide +kernel
theorem dX4_bestToMend_33 : decode cX4_bestToMend 33 = .ok (.istore 4, 2) := by decide +kernel
theorem dX4_bestToMend_35 : decode cX4_bestToMend 35 = .ok (.iload 4, 2) := by decide +kernel
theorem dX4_bestToMend_37 : decode cX4_bestToMend 37 = .ok (.aload_n 0, 1) := by decide +kernel
theorem dX4_bestToMend_38 : decode cX4_bestToMend 38 = .ok (.getfield 10, 3) := by decide +kernel
theorem dX4_bestToMend_41 : decode cX4_bestToMend 41 = .ok (.getfield 54, 3) := by decide +kernel
theorem dX4_bestToMend_44 : decode cX4_bestToMend 44 = .ok (.getfield 58, 3) := by decide +kernel
theorem dX4_bestToMend_47 : decode cX4_bestToMend 47 = .ok (.if_icmp .ge 58, 3) := by decide +kernel
theorem dX4_bestToMend_50 : decode cX4_bestToMend 50 = .ok (.aload_n 0, 1) := by decide +kernel
theorem dX4_bestToMend_51 : decode cX4_bestToMend 51 = .ok (.getfield 10, 3) := by decide +kernel
theorem dX4_bestToMend_54 : decode cX4_bestToMend 54 = .ok (.getfield 54, 3) := by decide +kernel
theorem dX4_bestToMend_57 : decode cX4_bestToMend 57 = .ok (.getfield 95, 3) := by decide +kernel
theorem dX4_bestToMend_60 : decode cX4_bestToMend 60 = .ok (.iload 4, 2) := by decide +kernel
theorem dX4_bestToMend_62 : decode cX4_bestToMend 62 = .ok (.iaload, 1) := by decide +kernel
theorem dX4_bestToMend_63 : decode cX4_bestToMend 63 = .ok (.ifCond .ne 36, 3) := by decide +kernel
theorem dX4_bestToMend_66 : decode cX4_bestToMend 66 = .ok (.aload_n 0, 1) := by decide +kernel
theorem dX4_bestToMend_67 : decode cX4_bestToMend 67 = .ok (.iload 4, 2) := by decide +kernel
theorem dX4_bestToMend_69 : decode cX4_bestToMend 69 = .ok (.bipush 24, 2) := by decide +kernel
theorem dX4_bestToMend_71 : decode cX4_bestToMend 71 = .ok (.invokevirtual 179, 3) := by decide +kernel
theorem dX4_bestToMend_74 : decode cX4_bestToMend 74 = .ok (.aload_n 0, 1) := by decide +kernel
theorem dX4_bestToMend_75 : decode cX4_bestToMend 75 = .ok (.getfield 16, 3) := by decide +kernel
theorem dX4_bestToMend_78 : decode cX4_bestToMend 78 = .ok (.getfield 69, 3) := by decide +kernel
theorem dX4_bestToMend_81 : decode cX4_bestToMend 81 = .ok (.iload_n 2, 1) := by decide +kernel
theorem dX4_bestToMend_82 : decode cX4_bestToMend 82 = .ok (.invokevirtual 185, 3) := by decide +kernel
theorem dX4_bestToMend_85 : decode cX4_bestToMend 85 = .ok (.istore 5, 2) := by decide +kernel
theorem dX4_bestToMend_87 : decode cX4_bestToMend 87 = .ok (.iload 5, 2) := by decide +kernel
theorem dX4_bestToMend_89 : decode cX4_bestToMend 89 = .ok (.iload_n 3, 1) := by decide +kernel
theorem dX4_bestToMend_90 : decode cX4_bestToMend 90 = .ok (.if_icmp .ge 9, 3) := by decide +kernel
theorem dX4_bestToMend_93 : decode cX4_bestToMend 93 = .ok (.iload 5, 2) := by decide +kernel
theorem dX4_bestToMend_95 : decode cX4_bestToMend 95 = .ok (.istore_n 3, 1) := by decide +kernel
theorem dX4_bestToMend_96 : decode cX4_bestToMend 96 = .ok (.iload 4, 2) := by decide +kernel
theorem dX4_bestToMend_98 : decode cX4_bestToMend 98 = .ok (.istore_n 1, 1) := by decide +kernel
theorem dX4_bestToMend_99 : decode cX4_bestToMend 99 = .ok (.iinc 4 1, 3) := by decide +kernel
theorem dX4_bestToMend_102 : decode cX4_bestToMend 102 = .ok (.goto (-67), 3) := by decide +kernel
theorem dX4_bestToMend_105 : decode cX4_bestToMend 105 = .ok (.iload_n 1, 1) := by decide +kernel
theorem dX4_bestToMend_106 : decode cX4_bestToMend 106 = .ok (.ireturn, 1) := by decide +kernel
theorem dX4_meanLength_0 : decode cX4_meanLength 0 = .ok (.aload_n 0, 1) := by decide +kernel
theorem dX4_meanLength_1 : decode cX4_meanLength 1 = .ok (.getfield 10, 3) := by decide +kernel
theorem dX4_meanLength_4 : decode cX4_meanLength 4 = .ok (.getfield 54, 3) := by decide +kernel
theorem dX4_meanLength_7 : decode cX4_meanLength 7 = .ok (.getfield 58, 3) := by decide +kernel
theorem dX4_meanLength_10 : decode cX4_meanLength 10 = .ok (.istore_n 1, 1) := by decide +kernel
theorem dX4_meanLength_11 : decode cX4_meanLength 11 = .ok (.iload_n 1, 1) := by decide +kernel
theorem dX4_meanLength_12 : decode cX4_meanLength 12 = .ok (.ifCond .ne 5, 3) := by decide +kernel
theorem dX4_meanLength_15 : decode cX4_meanLength 15 = .ok (.dconst 0, 1) := by decide +kernel
theorem dX4_meanLength_16 : decode cX4_meanLength 16 = .ok (.dreturn, 1) := by decide +kernel
theorem dX4_meanLength_17 : decode cX4_meanLength 17 = .ok (.iconst 0, 1) := by decide +kernel
theorem dX4_meanLength_18 : decode cX4_meanLength 18 = .ok (.istore_n 2, 1) := by decide +kernel
theorem dX4_meanLength_19 : decode cX4_meanLength 19 = .ok (.iconst 0, 1) := by decide +kernel
theorem dX4_meanLength_20 : decode cX4_meanLength 20 = .ok (.istore_n 3, 1) := by decide +kernel
theorem dX4_meanLength_21 : decode cX4_meanLength 21 = .ok (.iload_n 3, 1) := by decide +kernel
theorem dX4_meanLength_22 : decode cX4_meanLength 22 = .ok (.iload_n 1, 1) := by decide +kernel
theorem dX4_meanLength_23 : decode cX4_meanLength 23 = .ok (.if_icmp .ge 23, 3) := by decide +kernel
theorem dX4_meanLength_26 : decode cX4_meanLength 26 = .ok (.iload_n 2, 1) := by decide +kernel
theorem dX4_meanLength_27 : decode cX4_meanLength 27 = .ok (.aload_n 0, 1) := by decide +kernel
theorem dX4_meanLength_28 : decode cX4_meanLength 28 = .ok (.getfield 10, 3) := by decide +kernel
theorem dX4_meanLength_31 : decode cX4_meanLength 31 = .ok (.getfield 54, 3) := by decide +kernel
theorem dX4_meanLength_34 : decode cX4_meanLength 34 = .ok (.iload_n 3, 1) := by decide +kernel
theorem dX4_meanLength_35 : decode cX4_meanLength 35 = .ok (.invokevirtual 132, 3) := by decide +kernel
theorem dX4_meanLength_38 : decode cX4_meanLength 38 = .ok (.iadd, 1) := by decide +kernel
theorem dX4_meanLength_39 : decode cX4_meanLength 39 = .ok (.istore_n 2, 1) := by decide +kernel
theorem dX4_meanLength_40 : decode cX4_meanLength 40 = .ok (.iinc 3 1, 3) := by decide +kernel
theorem dX4_meanLength_43 : decode cX4_meanLength 43 = .ok (.goto (-22), 3) := by decide +kernel
theorem dX4_meanLength_46 : decode cX4_meanLength 46 = .ok (.iload_n 2, 1) := by decide +kernel
theorem dX4_meanLength_47 : decode cX4_meanLength 47 = .ok (.i2d, 1) := by decide +kernel
theorem dX4_meanLength_48 : decode cX4_meanLength 48 = .ok (.iload_n 1, 1) := by decide +kernel
theorem dX4_meanLength_49 : decode cX4_meanLength 49 = .ok (.i2d, 1) := by decide +kernel
theorem dX4_meanLength_50 : decode cX4_meanLength 50 = .ok (.ddiv, 1) := by decide +kernel
theorem dX4_meanLength_51 : decode cX4_meanLength 51 = .ok (.dreturn, 1) := by decide +kernel
theorem dX4_digest_0 : decode cX4_digest 0 = .ok (.ldc2_w 188, 3) := by decide +kernel
theorem dX4_digest_3 : decode cX4_digest 3 = .ok (.lstore_n 1, 1) := by decide +kernel
theorem dX4_digest_4 : decode cX4_digest 4 = .ok (.lload_n 1, 1) := by decide +kernel
theorem dX4_digest_5 : decode cX4_digest 5 = .ok (.aload_n 0, 1) := by decide +kernel
theorem dX4_digest_6 : decode cX4_digest 6 = .ok (.invokevirtual 190, 3) := by decide +kernel
theorem dX4_digest_9 : decode cX4_digest 9 = .ok (.i2l, 1) := by decide +kernel
theorem dX4_digest_10 : decode cX4_digest 10 = .ok (.invokestatic 192, 3) := by decide +kernel
theorem dX4_digest_13 : decode cX4_digest 13 = .ok (.lstore_n 1, 1) := by decide +kernel
theorem dX4_digest_14 : decode cX4_digest 14 = .ok (.lload_n 1, 1) := by decide +kernel
theorem dX4_digest_15 : decode cX4_digest 15 = .ok (.aload_n 0, 1) := by decide +kernel
theorem dX4_digest_16 : decode cX4_digest 16 = .ok (.invokevirtual 196, 3) := by decide +kernel
theorem dX4_digest_19 : decode cX4_digest 19 = .ok (.i2l, 1) := by decide +kernel
theorem dX4_digest_20 : decode cX4_digest 20 = .ok (.invokestatic 192, 3) := by decide +kernel
theorem dX4_digest_23 : decode cX4_digest 23 = .ok (.lstore_n 1, 1) := by decide +kernel
theorem dX4_digest_24 : decode cX4_digest 24 = .ok (.lload_n 1, 1) := by decide +kernel
theorem dX4_digest_25 : decode cX4_digest 25 = .ok (.aload_n 0, 1) := by decide +kernel
theorem dX4_digest_26 : decode cX4_digest 26 = .ok (.invokevirtual 198, 3) := by decide +kernel
theorem dX4_digest_29 : decode cX4_digest 29 = .ok (.i2l, 1) := by decide +kernel
theorem dX4_digest_30 : decode cX4_digest 30 = .ok (.invokestatic 192, 3) := by decide +kernel
theorem dX4_digest_33 : decode cX4_digest 33 = .ok (.lstore_n 1, 1) := by decide +kernel
theorem dX4_digest_34 : decode cX4_digest 34 = .ok (.lload_n 1, 1) := by decide +kernel
theorem dX4_digest_35 : decode cX4_digest 35 = .ok (.aload_n 0, 1) := by decide +kernel
theorem dX4_digest_36 : decode cX4_digest 36 = .ok (.invokevirtual 200, 3) := by decide +kernel
theorem dX4_digest_39 : decode cX4_digest 39 = .ok (.i2l, 1) := by decide +kernel
theorem dX4_digest_40 : decode cX4_digest 40 = .ok (.invokestatic 192, 3) := by decide +kernel
theorem dX4_digest_43 : decode cX4_digest 43 = .ok (.lstore_n 1, 1) := by decide +kernel
theorem dX4_digest_44 : decode cX4_digest 44 = .ok (.lload_n 1, 1) := by decide +kernel
theorem dX4_digest_45 : decode cX4_digest 45 = .ok (.aload_n 0, 1) := by decide +kernel
theorem dX4_digest_46 : decode cX4_digest 46 = .ok (.invokevirtual 202, 3) := by decide +kernel
theorem dX4_digest_49 : decode cX4_digest 49 = .ok (.i2l, 1) := by decide +kernel
theorem dX4_digest_50 : decode cX4_digest 50 = .ok (.invokestatic 192, 3) := by decide +kernel
theorem dX4_digest_53 : decode cX4_digest 53 = .ok (.lstore_n 1, 1) := by decide +kernel
theorem dX4_digest_54 : decode cX4_digest 54 = .ok (.lload_n 1, 1) := by decide +kernel
theorem dX4_digest_55 : decode cX4_digest 55 = .ok (.aload_n 0, 1) := by decide +kernel
theorem dX4_digest_56 : decode cX4_digest 56 = .ok (.invokevirtual 205, 3) := by decide +kernel
theorem dX4_digest_59 : decode cX4_digest 59 = .ok (.i2l, 1) := by decide +kernel
theorem dX4_digest_60 : decode cX4_digest 60 = .ok (.invokestatic 192, 3) := by decide +kernel
theorem dX4_digest_63 : decode cX4_digest 63 = .ok (.lstore_n 1, 1) := by decide +kernel
theorem dX4_digest_64 : decode cX4_digest 64 = .ok (.lload_n 1, 1) := by decide +kernel
theorem dX4_digest_65 : decode cX4_digest 65 = .ok (.aload_n 0, 1) := by decide +kernel
theorem dX4_digest_66 : decode cX4_digest 66 = .ok (.invokevirtual 208, 3) := by decide +kernel
theorem dX4_digest_69 : decode cX4_digest 69 = .ok (.i2l, 1) := by decide +kernel
theorem dX4_digest_70 : decode cX4_digest 70 = .ok (.invokestatic 192, 3) := by decide +kernel
theorem dX4_digest_73 : decode cX4_digest 73 = .ok (.lstore_n 1, 1) := by decide +kernel
theorem dX4_digest_74 : decode cX4_digest 74 = .ok (.lload_n 1, 1) := by decide +kernel
theorem dX4_digest_75 : decode cX4_digest 75 = .ok (.aload_n 0, 1) := by decide +kernel
theorem dX4_digest_76 : decode cX4_digest 76 = .ok (.invokevirtual 211, 3) := by decide +kernel
theorem dX4_digest_79 : decode cX4_digest 79 = .ok (.i2l, 1) := by decide +kernel
theorem dX4_digest_80 : decode cX4_digest 80 = .ok (.invokestatic 192, 3) := by decide +kernel
theorem dX4_digest_83 : decode cX4_digest 83 = .ok (.lstore_n 1, 1) := by decide +kernel
theorem dX4_digest_84 : decode cX4_digest 84 = .ok (.lload_n 1, 1) := by decide +kernel
theorem dX4_digest_85 : decode cX4_digest 85 = .ok (.aload_n 0, 1) := by decide +kernel
theorem dX4_digest_86 : decode cX4_digest 86 = .ok (.invokevirtual 214, 3) := by decide +kernel
theorem dX4_digest_89 : decode cX4_digest 89 = .ok (.i2l, 1) := by decide +kernel
theorem dX4_digest_90 : decode cX4_digest 90 = .ok (.invokestatic 192, 3) := by decide +kernel
theorem dX4_digest_93 : decode cX4_digest 93 = .ok (.lstore_n 1, 1) := by decide +kernel
theorem dX4_digest_94 : decode cX4_digest 94 = .ok (.lload_n 1, 1) := by decide +kernel
theorem dX4_digest_95 : decode cX4_digest 95 = .ok (.aload_n 0, 1) := by decide +kernel
theorem dX4_digest_96 : decode cX4_digest 96 = .ok (.invokevirtual 217, 3) := by decide +kernel
theorem dX4_digest_99 : decode cX4_digest 99 = .ok (.i2l, 1) := by decide +kernel
theorem dX4_digest_100 : decode cX4_digest 100 = .ok (.invokestatic 192, 3) := by decide +kernel
theorem dX4_digest_103 : decode cX4_digest 103 = .ok (.lstore_n 1, 1) := by decide +kernel
theorem dX4_digest_104 : decode cX4_digest 104 = .ok (.aload_n 0, 1) := by decide +kernel
theorem dX4_digest_105 : decode cX4_digest 105 = .ok (.lload_n 1, 1) := by decide +kernel
theorem dX4_digest_106 : decode cX4_digest 106 = .ok (.invokevirtual 220, 3) := by decide +kernel
theorem dX4_digest_109 : decode cX4_digest 109 = .ok (.lstore_n 1, 1) := by decide +kernel
theorem dX4_digest_110 : decode cX4_digest 110 = .ok (.aload_n 0, 1) := by decide +kernel
theorem dX4_digest_111 : decode cX4_digest 111 = .ok (.lload_n 1, 1) := by decide +kernel
theorem dX4_digest_112 : decode cX4_digest 112 = .ok (.invokevirtual 224, 3) := by decide +kernel
theorem dX4_digest_115 : decode cX4_digest 115 = .ok (.lreturn, 1) := by decide +kernel
theorem dX4_digestOfRoads_0 : decode cX4_digestOfRoads 0 = .ok (.lload_n 1, 1) := by decide +kernel
theorem dX4_digestOfRoads_1 : decode cX4_digestOfRoads 1 = .ok (.lstore_n 3, 1) := by decide +kernel
theorem dX4_digestOfRoads_2 : decode cX4_digestOfRoads 2 = .ok (.iconst 0, 1) := by decide +kernel
theorem dX4_digestOfRoads_3 : decode cX4_digestOfRoads 3 = .ok (.istore 5, 2) := by decide +kernel
theorem dX4_digestOfRoads_5 : decode cX4_digestOfRoads 5 = .ok (.iload 5, 2) := by decide +kernel
theorem dX4_digestOfRoads_7 : decode cX4_digestOfRoads 7 = .ok (.aload_n 0, 1) := by decide +kernel
theorem dX4_digestOfRoads_8 : decode cX4_digestOfRoads 8 = .ok (.getfield 10, 3) := by decide +kernel
theorem dX4_digestOfRoads_11 : decode cX4_digestOfRoads 11 = .ok (.getfield 54, 3) := by decide +kernel
theorem dX4_digestOfRoads_14 : decode cX4_digestOfRoads 14 = .ok (.getfield 58, 3) := by decide +kernel
theorem dX4_digestOfRoads_17 : decode cX4_digestOfRoads 17 = .ok (.if_icmp .ge 102, 3) := by decide +kernel
theorem dX4_digestOfRoads_20 : decode cX4_digestOfRoads 20 = .ok (.lload_n 3, 1) := by decide +kernel
theorem dX4_digestOfRoads_21 : decode cX4_digestOfRoads 21 = .ok (.aload_n 0, 1) := by decide +kernel
theorem dX4_digestOfRoads_22 : decode cX4_digestOfRoads 22 = .ok (.getfield 10, 3) := by decide +kernel
theorem dX4_digestOfRoads_25 : decode cX4_digestOfRoads 25 = .ok (.getfield 54, 3) := by decide +kernel
theorem dX4_digestOfRoads_28 : decode cX4_digestOfRoads 28 = .ok (.iload 5, 2) := by decide +kernel
theorem dX4_digestOfRoads_30 : decode cX4_digestOfRoads 30 = .ok (.invokevirtual 132, 3) := by decide +kernel
theorem dX4_digestOfRoads_33 : decode cX4_digestOfRoads 33 = .ok (.i2l, 1) := by decide +kernel
theorem dX4_digestOfRoads_34 : decode cX4_digestOfRoads 34 = .ok (.invokestatic 192, 3) := by decide +kernel
theorem dX4_digestOfRoads_37 : decode cX4_digestOfRoads 37 = .ok (.lstore_n 3, 1) := by decide +kernel
theorem dX4_digestOfRoads_38 : decode cX4_digestOfRoads 38 = .ok (.lload_n 3, 1) := by decide +kernel
theorem dX4_digestOfRoads_39 : decode cX4_digestOfRoads 39 = .ok (.aload_n 0, 1) := by decide +kernel
theorem dX4_digestOfRoads_40 : decode cX4_digestOfRoads 40 = .ok (.getfield 10, 3) := by decide +kernel
theorem dX4_digestOfRoads_43 : decode cX4_digestOfRoads 43 = .ok (.getfield 54, 3) := by decide +kernel
theorem dX4_digestOfRoads_46 : decode cX4_digestOfRoads 46 = .ok (.getfield 105, 3) := by decide +kernel
theorem dX4_digestOfRoads_49 : decode cX4_digestOfRoads 49 = .ok (.iload 5, 2) := by decide +kernel
theorem dX4_digestOfRoads_51 : decode cX4_digestOfRoads 51 = .ok (.iaload, 1) := by decide +kernel
theorem dX4_digestOfRoads_52 : decode cX4_digestOfRoads 52 = .ok (.i2l, 1) := by decide +kernel
theorem dX4_digestOfRoads_53 : decode cX4_digestOfRoads 53 = .ok (.invokestatic 192, 3) := by decide +kernel
theorem dX4_digestOfRoads_56 : decode cX4_digestOfRoads 56 = .ok (.lstore_n 3, 1) := by decide +kernel
theorem dX4_digestOfRoads_57 : decode cX4_digestOfRoads 57 = .ok (.lload_n 3, 1) := by decide +kernel
theorem dX4_digestOfRoads_58 : decode cX4_digestOfRoads 58 = .ok (.aload_n 0, 1) := by decide +kernel
theorem dX4_digestOfRoads_59 : decode cX4_digestOfRoads 59 = .ok (.getfield 10, 3) := by decide +kernel
theorem dX4_digestOfRoads_62 : decode cX4_digestOfRoads 62 = .ok (.getfield 54, 3) := by decide +kernel
theorem dX4_digestOfRoads_65 : decode cX4_digestOfRoads 65 = .ok (.getfield 135, 3) := by decide +kernel
theorem dX4_digestOfRoads_68 : decode cX4_digestOfRoads 68 = .ok (.iload 5, 2) := by decide +kernel
theorem dX4_digestOfRoads_70 : decode cX4_digestOfRoads 70 = .ok (.iaload, 1) := by decide +kernel
theorem dX4_digestOfRoads_71 : decode cX4_digestOfRoads 71 = .ok (.i2l, 1) := by decide +kernel
theorem dX4_digestOfRoads_72 : decode cX4_digestOfRoads 72 = .ok (.invokestatic 192, 3) := by decide +kernel
theorem dX4_digestOfRoads_75 : decode cX4_digestOfRoads 75 = .ok (.lstore_n 3, 1) := by decide +kernel
theorem dX4_digestOfRoads_76 : decode cX4_digestOfRoads 76 = .ok (.lload_n 3, 1) := by decide +kernel
theorem dX4_digestOfRoads_77 : decode cX4_digestOfRoads 77 = .ok (.aload_n 0, 1) := by decide +kernel
theorem dX4_digestOfRoads_78 : decode cX4_digestOfRoads 78 = .ok (.getfield 10, 3) := by decide +kernel
theorem dX4_digestOfRoads_81 : decode cX4_digestOfRoads 81 = .ok (.getfield 54, 3) := by decide +kernel
theorem dX4_digestOfRoads_84 : decode cX4_digestOfRoads 84 = .ok (.getfield 95, 3) := by decide +kernel
theorem dX4_digestOfRoads_87 : decode cX4_digestOfRoads 87 = .ok (.iload 5, 2) := by decide +kernel
theorem dX4_digestOfRoads_89 : decode cX4_digestOfRoads 89 = .ok (.iaload, 1) := by decide +kernel
theorem dX4_digestOfRoads_90 : decode cX4_digestOfRoads 90 = .ok (.i2l, 1) := by decide +kernel
theorem dX4_digestOfRoads_91 : decode cX4_digestOfRoads 91 = .ok (.invokestatic 192, 3) := by decide +kernel
theorem dX4_digestOfRoads_94 : decode cX4_digestOfRoads 94 = .ok (.lstore_n 3, 1) := by decide +kernel
theorem dX4_digestOfRoads_95 : decode cX4_digestOfRoads 95 = .ok (.lload_n 3, 1) := by decide +kernel
theorem dX4_digestOfRoads_96 : decode cX4_digestOfRoads 96 = .ok (.aload_n 0, 1) := by decide +kernel
theorem dX4_digestOfRoads_97 : decode cX4_digestOfRoads 97 = .ok (.getfield 10, 3) := by decide +kernel
theorem dX4_digestOfRoads_100 : decode cX4_digestOfRoads 100 = .ok (.getfield 69, 3) := by decide +kernel
theorem dX4_digestOfRoads_103 : decode cX4_digestOfRoads 103 = .ok (.iload 5, 2) := by decide +kernel
theorem dX4_digestOfRoads_105 : decode cX4_digestOfRoads 105 = .ok (.invokevirtual 108, 3) := by decide +kernel
theorem dX4_digestOfRoads_108 : decode cX4_digestOfRoads 108 = .ok (.i2l, 1) := by decide +kernel
theorem dX4_digestOfRoads_109 : decode cX4_digestOfRoads 109 = .ok (.invokestatic 192, 3) := by decide +kernel
theorem dX4_digestOfRoads_112 : decode cX4_digestOfRoads 112 = .ok (.lstore_n 3, 1) := by decide +kernel
theorem dX4_digestOfRoads_113 : decode cX4_digestOfRoads 113 = .ok (.iinc 5 1, 3) := by decide +kernel
theorem dX4_digestOfRoads_116 : decode cX4_digestOfRoads 116 = .ok (.goto (-111), 3) := by decide +kernel
theorem dX4_digestOfRoads_119 : decode cX4_digestOfRoads 119 = .ok (.lload_n 3, 1) := by decide +kernel
theorem dX4_digestOfRoads_120 : decode cX4_digestOfRoads 120 = .ok (.lreturn, 1) := by decide +kernel
theorem dX4_digestOfTourists_0 : decode cX4_digestOfTourists 0 = .ok (.lload_n 1, 1) := by decide +kernel
theorem dX4_digestOfTourists_1 : decode cX4_digestOfTourists 1 = .ok (.lstore_n 3, 1) := by decide +kernel
theorem dX4_digestOfTourists_2 : decode cX4_digestOfTourists 2 = .ok (.aload_n 0, 1) := by decide +kernel
theorem dX4_digestOfTourists_3 : decode cX4_digestOfTourists 3 = .ok (.iconst (-1), 1) := by decide +kernel
theorem dX4_digestOfTourists_4 : decode cX4_digestOfTourists 4 = .ok (.bipush 100, 2) := by decide +kernel
theorem dX4_digestOfTourists_6 : decode cX4_digestOfTourists 6 = .ok (.invokevirtual 179, 3) := by decide +kernel
theorem dX4_digestOfTourists_9 : decode cX4_digestOfTourists 9 = .ok (.iconst 0, 1) := by decide +kernel
theorem dX4_digestOfTourists_10 : decode cX4_digestOfTourists 10 = .ok (.istore 5, 2) := by decide +kernel
theorem dX4_digestOfTourists_12 : decode cX4_digestOfTourists 12 = .ok (.iload 5, 2) := by decide +kernel
theorem dX4_digestOfTourists_14 : decode cX4_digestOfTourists 14 = .ok (.aload_n 0, 1) := by decide +kernel
theorem dX4_digestOfTourists_15 : decode cX4_digestOfTourists 15 = .ok (.getfield 10, 3) := by decide +kernel
theorem dX4_digestOfTourists_18 : decode cX4_digestOfTourists 18 = .ok (.getfield 69, 3) := by decide +kernel
theorem dX4_digestOfTourists_21 : decode cX4_digestOfTourists 21 = .ok (.getfield 73, 3) := by decide +kernel
theorem dX4_digestOfTourists_24 : decode cX4_digestOfTourists 24 = .ok (.if_icmp .ge 128, 3) := by decide +kernel
theorem dX4_digestOfTourists_27 : decode cX4_digestOfTourists 27 = .ok (.lload_n 3, 1) := by decide +kernel
theorem dX4_digestOfTourists_28 : decode cX4_digestOfTourists 28 = .ok (.aload_n 0, 1) := by decide +kernel
theorem dX4_digestOfTourists_29 : decode cX4_digestOfTourists 29 = .ok (.getfield 10, 3) := by decide +kernel
theorem dX4_digestOfTourists_32 : decode cX4_digestOfTourists 32 = .ok (.getfield 69, 3) := by decide +kernel
theorem dX4_digestOfTourists_35 : decode cX4_digestOfTourists 35 = .ok (.getfield 163, 3) := by decide +kernel
theorem dX4_digestOfTourists_38 : decode cX4_digestOfTourists 38 = .ok (.iload 5, 2) := by decide +kernel
theorem dX4_digestOfTourists_40 : decode cX4_digestOfTourists 40 = .ok (.iaload, 1) := by decide +kernel
theorem dX4_digestOfTourists_41 : decode cX4_digestOfTourists 41 = .ok (.i2l, 1) := by decide +kernel
theorem dX4_digestOfTourists_42 : decode cX4_digestOfTourists 42 = .ok (.invokestatic 192, 3) := by decide +kernel
theorem dX4_digestOfTourists_45 : decode cX4_digestOfTourists 45 = .ok (.lstore_n 3, 1) := by decide +kernel
theorem dX4_digestOfTourists_46 : decode cX4_digestOfTourists 46 = .ok (.lload_n 3, 1) := by decide +kernel
theorem dX4_digestOfTourists_47 : decode cX4_digestOfTourists 47 = .ok (.aload_n 0, 1) := by decide +kernel
theorem dX4_digestOfTourists_48 : decode cX4_digestOfTourists 48 = .ok (.getfield 10, 3) := by decide +kernel
theorem dX4_digestOfTourists_51 : decode cX4_digestOfTourists 51 = .ok (.getfield 69, 3) := by decide +kernel
theorem dX4_digestOfTourists_54 : decode cX4_digestOfTourists 54 = .ok (.getfield 166, 3) := by decide +kernel
theorem dX4_digestOfTourists_57 : decode cX4_digestOfTourists 57 = .ok (.iload 5, 2) := by decide +kernel
theorem dX4_digestOfTourists_59 : decode cX4_digestOfTourists 59 = .ok (.iaload, 1) := by decide +kernel
theorem dX4_digestOfTourists_60 : decode cX4_digestOfTourists 60 = .ok (.i2l, 1) := by decide +kernel
theorem dX4_digestOfTourists_61 : decode cX4_digestOfTourists 61 = .ok (.invokestatic 192, 3) := by decide +kernel
theorem dX4_digestOfTourists_64 : decode cX4_digestOfTourists 64 = .ok (.lstore_n 3, 1) := by decide +kernel
theorem dX4_digestOfTourists_65 : decode cX4_digestOfTourists 65 = .ok (.lload_n 3, 1) := by decide +kernel
theorem dX4_digestOfTourists_66 : decode cX4_digestOfTourists 66 = .ok (.aload_n 0, 1) := by decide +kernel
theorem dX4_digestOfTourists_67 : decode cX4_digestOfTourists 67 = .ok (.getfield 10, 3) := by decide +kernel
theorem dX4_digestOfTourists_70 : decode cX4_digestOfTourists 70 = .ok (.getfield 69, 3) := by decide +kernel
theorem dX4_digestOfTourists_73 : decode cX4_digestOfTourists 73 = .ok (.getfield 169, 3) := by decide +kernel
theorem dX4_digestOfTourists_76 : decode cX4_digestOfTourists 76 = .ok (.iload 5, 2) := by decide +kernel
theorem dX4_digestOfTourists_78 : decode cX4_digestOfTourists 78 = .ok (.iaload, 1) := by decide +kernel
theorem dX4_digestOfTourists_79 : decode cX4_digestOfTourists 79 = .ok (.i2l, 1) := by decide +kernel
theorem dX4_digestOfTourists_80 : decode cX4_digestOfTourists 80 = .ok (.invokestatic 192, 3) := by decide +kernel
theorem dX4_digestOfTourists_83 : decode cX4_digestOfTourists 83 = .ok (.lstore_n 3, 1) := by decide +kernel
theorem dX4_digestOfTourists_84 : decode cX4_digestOfTourists 84 = .ok (.lload_n 3, 1) := by decide +kernel
theorem dX4_digestOfTourists_85 : decode cX4_digestOfTourists 85 = .ok (.aload_n 0, 1) := by decide +kernel
theorem dX4_digestOfTourists_86 : decode cX4_digestOfTourists 86 = .ok (.getfield 10, 3) := by decide +kernel
theorem dX4_digestOfTourists_89 : decode cX4_digestOfTourists 89 = .ok (.getfield 69, 3) := by decide +kernel
theorem dX4_digestOfTourists_92 : decode cX4_digestOfTourists 92 = .ok (.iload 5, 2) := by decide +kernel
theorem dX4_digestOfTourists_94 : decode cX4_digestOfTourists 94 = .ok (.aload_n 0, 1) := by decide +kernel
theorem dX4_digestOfTourists_95 : decode cX4_digestOfTourists 95 = .ok (.getfield 10, 3) := by decide +kernel
theorem dX4_digestOfTourists_98 : decode cX4_digestOfTourists 98 = .ok (.getfield 84, 3) := by decide +kernel
theorem dX4_digestOfTourists_101 : decode cX4_digestOfTourists 101 = .ok (.invokevirtual 172, 3) := by decide +kernel
theorem dX4_digestOfTourists_104 : decode cX4_digestOfTourists 104 = .ok (.i2l, 1) := by decide +kernel
theorem dX4_digestOfTourists_105 : decode cX4_digestOfTourists 105 = .ok (.invokestatic 192, 3) := by decide +kernel
theorem dX4_digestOfTourists_108 : decode cX4_digestOfTourists 108 = .ok (.lstore_n 3, 1) := by decide +kernel
theorem dX4_digestOfTourists_109 : decode cX4_digestOfTourists 109 = .ok (.lload_n 3, 1) := by decide +kernel
theorem dX4_digestOfTourists_110 : decode cX4_digestOfTourists 110 = .ok (.aload_n 0, 1) := by decide +kernel
theorem dX4_digestOfTourists_111 : decode cX4_digestOfTourists 111 = .ok (.getfield 10, 3) := by decide +kernel
theorem dX4_digestOfTourists_114 : decode cX4_digestOfTourists 114 = .ok (.getfield 69, 3) := by decide +kernel
theorem dX4_digestOfTourists_117 : decode cX4_digestOfTourists 117 = .ok (.iload 5, 2) := by decide +kernel
theorem dX4_digestOfTourists_119 : decode cX4_digestOfTourists 119 = .ok (.invokevirtual 175, 3) := by decide +kernel
theorem dX4_digestOfTourists_122 : decode cX4_digestOfTourists 122 = .ok (.ifCond .eq 7, 3) := by decide +kernel
theorem dX4_digestOfTourists_125 : decode cX4_digestOfTourists 125 = .ok (.lconst 1, 1) := by decide +kernel
theorem dX4_digestOfTourists_126 : decode cX4_digestOfTourists 126 = .ok (.goto 4, 3) := by decide +kernel
theorem dX4_digestOfTourists_129 : decode cX4_digestOfTourists 129 = .ok (.lconst 0, 1) := by decide +kernel
theorem dX4_digestOfTourists_130 : decode cX4_digestOfTourists 130 = .ok (.invokestatic 192, 3) := by decide +kernel
theorem dX4_digestOfTourists_133 : decode cX4_digestOfTourists 133 = .ok (.lstore_n 3, 1) := by decide +kernel
theorem dX4_digestOfTourists_134 : decode cX4_digestOfTourists 134 = .ok (.lload_n 3, 1) := by decide +kernel
theorem dX4_digestOfTourists_135 : decode cX4_digestOfTourists 135 = .ok (.aload_n 0, 1) := by decide +kernel
theorem dX4_digestOfTourists_136 : decode cX4_digestOfTourists 136 = .ok (.iload 5, 2) := by decide +kernel
theorem dX4_digestOfTourists_138 : decode cX4_digestOfTourists 138 = .ok (.invokevirtual 182, 3) := by decide +kernel
theorem dX4_digestOfTourists_141 : decode cX4_digestOfTourists 141 = .ok (.i2l, 1) := by decide +kernel
theorem dX4_digestOfTourists_142 : decode cX4_digestOfTourists 142 = .ok (.invokestatic 192, 3) := by decide +kernel
theorem dX4_digestOfTourists_145 : decode cX4_digestOfTourists 145 = .ok (.lstore_n 3, 1) := by decide +kernel
theorem dX4_digestOfTourists_146 : decode cX4_digestOfTourists 146 = .ok (.iinc 5 1, 3) := by decide +kernel
theorem dX4_digestOfTourists_149 : decode cX4_digestOfTourists 149 = .ok (.goto (-137), 3) := by decide +kernel
theorem dX4_digestOfTourists_152 : decode cX4_digestOfTourists 152 = .ok (.lload_n 3, 1) := by decide +kernel
theorem dX4_digestOfTourists_153 : decode cX4_digestOfTourists 153 = .ok (.lreturn, 1) := by decide +kernel
theorem dX4_woven_0 : decode cX4_woven 0 = .ok (.lload_n 0, 1) := by decide +kernel
theorem dX4_woven_1 : decode cX4_woven 1 = .ok (.ldc2_w 227, 3) := by decide +kernel
theorem dX4_woven_4 : decode cX4_woven 4 = .ok (.lmul, 1) := by decide +kernel
theorem dX4_woven_5 : decode cX4_woven 5 = .ok (.lload_n 2, 1) := by decide +kernel
theorem dX4_woven_6 : decode cX4_woven 6 = .ok (.ladd, 1) := by decide +kernel
theorem dX4_woven_7 : decode cX4_woven 7 = .ok (.lreturn, 1) := by decide +kernel
theorem dX4_foresee_0 : decode cX4_foresee 0 = .ok (.aload_n 0, 1) := by decide +kernel
theorem dX4_foresee_1 : decode cX4_foresee 1 = .ok (.getfield 16, 3) := by decide +kernel
theorem dX4_foresee_4 : decode cX4_foresee 4 = .ok (.aload_n 0, 1) := by decide +kernel
theorem dX4_foresee_5 : decode cX4_foresee 5 = .ok (.getfield 10, 3) := by decide +kernel
theorem dX4_foresee_8 : decode cX4_foresee 8 = .ok (.invokevirtual 229, 3) := by decide +kernel
theorem dX4_foresee_11 : decode cX4_foresee 11 = .ok (.iload_n 1, 1) := by decide +kernel
theorem dX4_foresee_12 : decode cX4_foresee 12 = .ok (.ifCond .lt 12, 3) := by decide +kernel
theorem dX4_foresee_15 : decode cX4_foresee 15 = .ok (.aload_n 0, 1) := by decide +kernel
theorem dX4_foresee_16 : decode cX4_foresee 16 = .ok (.getfield 16, 3) := by decide +kernel
theorem dX4_foresee_19 : decode cX4_foresee 19 = .ok (.iload_n 1, 1) := by decide +kernel
theorem dX4_foresee_20 : decode cX4_foresee 20 = .ok (.iconst 4, 1) := by decide +kernel
theorem dX4_foresee_21 : decode cX4_foresee 21 = .ok (.invokevirtual 101, 3) := by decide +kernel
theorem dX4_foresee_24 : decode cX4_foresee 24 = .ok (.iconst 0, 1) := by decide +kernel
theorem dX4_foresee_25 : decode cX4_foresee 25 = .ok (.istore_n 3, 1) := by decide +kernel
theorem dX4_foresee_26 : decode cX4_foresee 26 = .ok (.iload_n 3, 1) := by decide +kernel
theorem dX4_foresee_27 : decode cX4_foresee 27 = .ok (.iload_n 2, 1) := by decide +kernel
theorem dX4_foresee_28 : decode cX4_foresee 28 = .ok (.if_icmp .ge 39, 3) := by decide +kernel
theorem dX4_foresee_31 : decode cX4_foresee 31 = .ok (.aload_n 0, 1) := by decide +kernel
theorem dX4_foresee_32 : decode cX4_foresee 32 = .ok (.getfield 16, 3) := by decide +kernel
theorem dX4_foresee_35 : decode cX4_foresee 35 = .ok (.getfield 69, 3) := by decide +kernel
theorem dX4_foresee_38 : decode cX4_foresee 38 = .ok (.getfield 120, 3) := by decide +kernel
theorem dX4_foresee_41 : decode cX4_foresee 41 = .ok (.aload_n 0, 1) := by decide +kernel
theorem dX4_foresee_42 : decode cX4_foresee 42 = .ok (.getfield 16, 3) := by decide +kernel
theorem dX4_foresee_45 : decode cX4_foresee 45 = .ok (.getfield 69, 3) := by decide +kernel
theorem dX4_foresee_48 : decode cX4_foresee 48 = .ok (.getfield 73, 3) := by decide +kernel
theorem dX4_foresee_51 : decode cX4_foresee 51 = .ok (.if_icmp .ge 16, 3) := by decide +kernel
theorem dX4_foresee_54 : decode cX4_foresee 54 = .ok (.aload_n 0, 1) := by decide +kernel
theorem dX4_foresee_55 : decode cX4_foresee 55 = .ok (.getfield 16, 3) := by decide +kernel
theorem dX4_foresee_58 : decode cX4_foresee 58 = .ok (.invokevirtual 123, 3) := by decide +kernel
theorem dX4_foresee_61 : decode cX4_foresee 61 = .ok (.iinc 3 1, 3) := by decide +kernel
theorem dX4_foresee_64 : decode cX4_foresee 64 = .ok (.goto (-38), 3) := by decide +kernel
theorem dX4_foresee_67 : decode cX4_foresee 67 = .ok (.return_, 1) := by decide +kernel
theorem dX4_foreseenHoursUntilIn_0 : decode cX4_foreseenHoursUntilIn 0 = .ok (.aload_n 0, 1) := by decide +kernel
theorem dX4_foreseenHoursUntilIn_1 : decode cX4_foreseenHoursUntilIn 1 = .ok (.getfield 10, 3) := by decide +kernel
theorem dX4_foreseenHoursUntilIn_4 : decode cX4_foreseenHoursUntilIn 4 = .ok (.getfield 69, 3) := by decide +kernel
theorem dX4_foreseenHoursUntilIn_7 : decode cX4_foreseenHoursUntilIn 7 = .ok (.iload_n 1, 1) := by decide +kernel
theorem dX4_foreseenHoursUntilIn_8 : decode cX4_foreseenHoursUntilIn 8 = .ok (.invokevirtual 175, 3) := by decide +kernel
theorem dX4_foreseenHoursUntilIn_11 : decode cX4_foreseenHoursUntilIn 11 = .ok (.ifCond .eq 5, 3) := by decide +kernel
theorem dX4_foreseenHoursUntilIn_14 : decode cX4_foreseenHoursUntilIn 14 = .ok (.iconst 0, 1) := by decide +kernel
theorem dX4_foreseenHoursUntilIn_15 : decode cX4_foreseenHoursUntilIn 15 = .ok (.ireturn, 1) := by decide +kernel
theorem dX4_foreseenHoursUntilIn_16 : decode cX4_foreseenHoursUntilIn 16 = .ok (.aload_n 0, 1) := by decide +kernel
theorem dX4_foreseenHoursUntilIn_17 : decode cX4_foreseenHoursUntilIn 17 = .ok (.getfield 16, 3) := by decide +kernel
theorem dX4_foreseenHoursUntilIn_20 : decode cX4_foreseenHoursUntilIn 20 = .ok (.getfield 69, 3) := by decide +kernel
theorem dX4_foreseenHoursUntilIn_23 : decode cX4_foreseenHoursUntilIn 23 = .ok (.iload_n 1, 1) := by decide +kernel
theorem dX4_foreseenHoursUntilIn_24 : decode cX4_foreseenHoursUntilIn 24 = .ok (.invokevirtual 175, 3) := by decide +kernel
theorem dX4_foreseenHoursUntilIn_27 : decode cX4_foreseenHoursUntilIn 27 = .ok (.ifCond .ne 5, 3) := by decide +kernel
theorem dX4_foreseenHoursUntilIn_30 : decode cX4_foreseenHoursUntilIn 30 = .ok (.iconst (-1), 1) := by decide +kernel
theorem dX4_foreseenHoursUntilIn_31 : decode cX4_foreseenHoursUntilIn 31 = .ok (.ireturn, 1) := by decide +kernel
theorem dX4_foreseenHoursUntilIn_32 : decode cX4_foreseenHoursUntilIn 32 = .ok (.aload_n 0, 1) := by decide +kernel
theorem dX4_foreseenHoursUntilIn_33 : decode cX4_foreseenHoursUntilIn 33 = .ok (.getfield 16, 3) := by decide +kernel
theorem dX4_foreseenHoursUntilIn_36 : decode cX4_foreseenHoursUntilIn 36 = .ok (.getfield 69, 3) := by decide +kernel
theorem dX4_foreseenHoursUntilIn_39 : decode cX4_foreseenHoursUntilIn 39 = .ok (.getfield 233, 3) := by decide +kernel
theorem dX4_foreseenHoursUntilIn_42 : decode cX4_foreseenHoursUntilIn 42 = .ok (.iload_n 1, 1) := by decide +kernel
theorem dX4_foreseenHoursUntilIn_43 : decode cX4_foreseenHoursUntilIn 43 = .ok (.iaload, 1) := by decide +kernel
theorem dX4_foreseenHoursUntilIn_44 : decode cX4_foreseenHoursUntilIn 44 = .ok (.aload_n 0, 1) := by decide +kernel
theorem dX4_foreseenHoursUntilIn_45 : decode cX4_foreseenHoursUntilIn 45 = .ok (.getfield 16, 3) := by decide +kernel
theorem dX4_foreseenHoursUntilIn_48 : decode cX4_foreseenHoursUntilIn 48 = .ok (.getfield 69, 3) := by decide +kernel
theorem dX4_foreseenHoursUntilIn_51 : decode cX4_foreseenHoursUntilIn 51 = .ok (.getfield 236, 3) := by decide +kernel
theorem dX4_foreseenHoursUntilIn_54 : decode cX4_foreseenHoursUntilIn 54 = .ok (.iload_n 1, 1) := by decide +kernel
theorem dX4_foreseenHoursUntilIn_55 : decode cX4_foreseenHoursUntilIn 55 = .ok (.iaload, 1) := by decide +kernel
theorem dX4_foreseenHoursUntilIn_56 : decode cX4_foreseenHoursUntilIn 56 = .ok (.iadd, 1) := by decide +kernel
theorem dX4_foreseenHoursUntilIn_57 : decode cX4_foreseenHoursUntilIn 57 = .ok (.aload_n 0, 1) := by decide +kernel
theorem dX4_foreseenHoursUntilIn_58 : decode cX4_foreseenHoursUntilIn 58 = .ok (.getfield 10, 3) := by decide +kernel
theorem dX4_foreseenHoursUntilIn_61 : decode cX4_foreseenHoursUntilIn 61 = .ok (.getfield 84, 3) := by decide +kernel
theorem dX4_foreseenHoursUntilIn_64 : decode cX4_foreseenHoursUntilIn 64 = .ok (.isub, 1) := by decide +kernel
theorem dX4_foreseenHoursUntilIn_65 : decode cX4_foreseenHoursUntilIn 65 = .ok (.ireturn, 1) := by decide +kernel
theorem dX4_requireCrossing_0 : decode cX4_requireCrossing 0 = .ok (.iload_n 1, 1) := by decide +kernel
theorem dX4_requireCrossing_1 : decode cX4_requireCrossing 1 = .ok (.ifCond .lt 14, 3) := by decide +kernel
theorem dX4_requireCrossing_4 : decode cX4_requireCrossing 4 = .ok (.iload_n 1, 1) := by decide +kernel
theorem dX4_requireCrossing_5 : decode cX4_requireCrossing 5 = .ok (.aload_n 0, 1) := by decide +kernel
theorem dX4_requireCrossing_6 : decode cX4_requireCrossing 6 = .ok (.getfield 10, 3) := by decide +kernel
theorem dX4_requireCrossing_9 : decode cX4_requireCrossing 9 = .ok (.getfield 26, 3) := by decide +kernel
theorem dX4_requireCrossing_12 : decode cX4_requireCrossing 12 = .ok (.if_icmp .lt 13, 3) := by decide +kernel
theorem dX4_requireCrossing_15 : decode cX4_requireCrossing 15 = .ok (.new 239, 3) := by decide +kernel
theorem dX4_requireCrossing_18 : decode cX4_requireCrossing 18 = .ok (.dup, 1) := by decide +kernel
theorem dX4_requireCrossing_19 : decode cX4_requireCrossing 19 = .ok (.ldc 241, 2) := by decide +kernel
theorem dX4_requireCrossing_21 : decode cX4_requireCrossing 21 = .ok (.invokespecial 243, 3) := by decide +kernel
theorem dX4_requireCrossing_24 : decode cX4_requireCrossing 24 = .ok (.athrow, 1) := by decide +kernel
theorem dX4_requireCrossing_25 : decode cX4_requireCrossing 25 = .ok (.return_, 1) := by decide +kernel
theorem dX4_requireRoad_0 : decode cX4_requireRoad 0 = .ok (.iload_n 1, 1) := by decide +kernel
theorem dX4_requireRoad_1 : decode cX4_requireRoad 1 = .ok (.ifCond .lt 17, 3) := by decide +kernel
theorem dX4_requireRoad_4 : decode cX4_requireRoad 4 = .ok (.iload_n 1, 1) := by decide +kernel
theorem dX4_requireRoad_5 : decode cX4_requireRoad 5 = .ok (.aload_n 0, 1) := by decide +kernel
theorem dX4_requireRoad_6 : decode cX4_requireRoad 6 = .ok (.getfield 10, 3) := by decide +kernel
theorem dX4_requireRoad_9 : decode cX4_requireRoad 9 = .ok (.getfield 54, 3) := by decide +kernel
theorem dX4_requireRoad_12 : decode cX4_requireRoad 12 = .ok (.getfield 58, 3) := by decide +kernel
theorem dX4_requireRoad_15 : decode cX4_requireRoad 15 = .ok (.if_icmp .lt 13, 3) := by decide +kernel
theorem dX4_requireRoad_18 : decode cX4_requireRoad 18 = .ok (.new 239, 3) := by decide +kernel
theorem dX4_requireRoad_21 : decode cX4_requireRoad 21 = .ok (.dup, 1) := by decide +kernel
theorem dX4_requireRoad_22 : decode cX4_requireRoad 22 = .ok (.ldc 244, 2) := by decide +kernel
theorem dX4_requireRoad_24 : decode cX4_requireRoad 24 = .ok (.invokespecial 243, 3) := by decide +kernel
theorem dX4_requireRoad_27 : decode cX4_requireRoad 27 = .ok (.athrow, 1) := by decide +kernel
theorem dX4_requireRoad_28 : decode cX4_requireRoad 28 = .ok (.return_, 1) := by decide +kernel
theorem dX4_requireTourist_0 : decode cX4_requireTourist 0 = .ok (.iload_n 1, 1) := by decide +kernel
theorem dX4_requireTourist_1 : decode cX4_requireTourist 1 = .ok (.ifCond .lt 17, 3) := by decide +kernel
theorem dX4_requireTourist_4 : decode cX4_requireTourist 4 = .ok (.iload_n 1, 1) := by decide +kernel
theorem dX4_requireTourist_5 : decode cX4_requireTourist 5 = .ok (.aload_n 0, 1) := by decide +kernel
theorem dX4_requireTourist_6 : decode cX4_requireTourist 6 = .ok (.getfield 10, 3) := by decide +kernel
theorem dX4_requireTourist_9 : decode cX4_requireTourist 9 = .ok (.getfield 69, 3) := by decide +kernel
theorem dX4_requireTourist_12 : decode cX4_requireTourist 12 = .ok (.getfield 73, 3) := by decide +kernel
theorem dX4_requireTourist_15 : decode cX4_requireTourist 15 = .ok (.if_icmp .lt 13, 3) := by decide +kernel
theorem dX4_requireTourist_18 : decode cX4_requireTourist 18 = .ok (.new 239, 3) := by decide +kernel
theorem dX4_requireTourist_21 : decode cX4_requireTourist 21 = .ok (.dup, 1) := by decide +kernel
theorem dX4_requireTourist_22 : decode cX4_requireTourist 22 = .ok (.ldc 246, 2) := by decide +kernel
theorem dX4_requireTourist_24 : decode cX4_requireTourist 24 = .ok (.invokespecial 243, 3) := by decide +kernel
theorem dX4_requireTourist_27 : decode cX4_requireTourist 27 = .ok (.athrow, 1) := by decide +kernel
theorem dX4_requireTourist_28 : decode cX4_requireTourist 28 = .ok (.return_, 1) := by decide +kernel
theorem dX4_requirePassing_0 : decode cX4_requirePassing 0 = .ok (.iload_n 1, 1) := by decide +kernel
theorem dX4_requirePassing_1 : decode cX4_requirePassing 1 = .ok (.iconst 1, 1) := by decide +kernel
theorem dX4_requirePassing_2 : decode cX4_requirePassing 2 = .ok (.if_icmp .lt 9, 3) := by decide +kernel
theorem dX4_requirePassing_5 : decode cX4_requirePassing 5 = .ok (.iload_n 1, 1) := by decide +kernel
theorem dX4_requirePassing_6 : decode cX4_requirePassing 6 = .ok (.bipush 50, 2) := by decide +kernel
theorem dX4_requirePassing_8 : decode cX4_requirePassing 8 = .ok (.if_icmp .le 13, 3) := by decide +kernel
theorem dX4_requirePassing_11 : decode cX4_requirePassing 11 = .ok (.new 45, 3) := by decide +kernel
theorem dX4_requirePassing_14 : decode cX4_requirePassing 14 = .ok (.dup, 1) := by decide +kernel
theorem dX4_requirePassing_15 : decode cX4_requirePassing 15 = .ok (.ldc 248, 2) := by decide +kernel
theorem dX4_requirePassing_17 : decode cX4_requirePassing 17 = .ok (.invokespecial 49, 3) := by decide +kernel
theorem dX4_requirePassing_20 : decode cX4_requirePassing 20 = .ok (.athrow, 1) := by decide +kernel
theorem dX4_requirePassing_21 : decode cX4_requirePassing 21 = .ok (.return_, 1) := by decide +kernel
