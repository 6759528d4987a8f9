theorem dX4_addRoad_85 : decode cX4_addRoad 85 = .ok (.dup, 1) := by decide +kernel
theorem dX4_addRoad_86 : decode cX4_addRoad 86 = .ok (.ldc 63, 2) := by decide +kernel
theorem dX4_addRoad_88 : decode cX4_addRoad 88 = .ok (.invokespecial 34, 3) := by decide +kernel
theorem dX4_addRoad_91 : decode cX4_addRoad 91 = .ok (.athrow, 1) := by decide +kernel
theorem dX4_addRoad_92 : decode cX4_addRoad 92 = .ok (.aload_n 0, 1) := by decide +kernel
theorem dX4_addRoad_93 : decode cX4_addRoad 93 = .ok (.getfield 10, 3) := by decide +kernel
theorem dX4_addRoad_96 : decode cX4_addRoad 96 = .ok (.iload_n 1, 1) := by decide +kernel
theorem dX4_addRoad_97 : decode cX4_addRoad 97 = .ok (.iload_n 2, 1) := by decide +kernel
theorem dX4_addRoad_98 : decode cX4_addRoad 98 = .ok (.iload_n 3, 1) := by decide +kernel
theorem dX4_addRoad_99 : decode cX4_addRoad 99 = .ok (.iload 4, 2) := by decide +kernel
theorem dX4_addRoad_101 : decode cX4_addRoad 101 = .ok (.invokevirtual 65, 3) := by decide +kernel
theorem dX4_addRoad_104 : decode cX4_addRoad 104 = .ok (.ireturn, 1) := by decide +kernel
theorem dX4_addTourist_0 : decode cX4_addTourist 0 = .ok (.aload_n 0, 1) := by decide +kernel
theorem dX4_addTourist_1 : decode cX4_addTourist 1 = .ok (.iload_n 1, 1) := by decide +kernel
theorem dX4_addTourist_2 : decode cX4_addTourist 2 = .ok (.invokevirtual 41, 3) := by decide +kernel
theorem dX4_addTourist_5 : decode cX4_addTourist 5 = .ok (.aload_n 0, 1) := by decide +kernel
theorem dX4_addTourist_6 : decode cX4_addTourist 6 = .ok (.iload_n 2, 1) := by decide +kernel
theorem dX4_addTourist_7 : decode cX4_addTourist 7 = .ok (.invokevirtual 41, 3) := by decide +kernel
theorem dX4_addTourist_10 : decode cX4_addTourist 10 = .ok (.iload_n 1, 1) := by decide +kernel
theorem dX4_addTourist_11 : decode cX4_addTourist 11 = .ok (.iload_n 2, 1) := by decide +kernel
theorem dX4_addTourist_12 : decode cX4_addTourist 12 = .ok (.if_icmp .ne 13, 3) := by decide +kernel
theorem dX4_addTourist_15 : decode cX4_addTourist 15 = .ok (.new 45, 3) := by decide +kernel
theorem dX4_addTourist_18 : decode cX4_addTourist 18 = .ok (.dup, 1) := by decide +kernel
theorem dX4_addTourist_19 : decode cX4_addTourist 19 = .ok (.ldc 47, 2) := by decide +kernel
theorem dX4_addTourist_21 : decode cX4_addTourist 21 = .ok (.invokespecial 49, 3) := by decide +kernel
theorem dX4_addTourist_24 : decode cX4_addTourist 24 = .ok (.athrow, 1) := by decide +kernel
theorem dX4_addTourist_25 : decode cX4_addTourist 25 = .ok (.aload_n 0, 1) := by decide +kernel
theorem dX4_addTourist_26 : decode cX4_addTourist 26 = .ok (.getfield 10, 3) := by decide +kernel
theorem dX4_addTourist_29 : decode cX4_addTourist 29 = .ok (.getfield 69, 3) := by decide +kernel
theorem dX4_addTourist_32 : decode cX4_addTourist 32 = .ok (.getfield 73, 3) := by decide +kernel
theorem dX4_addTourist_35 : decode cX4_addTourist 35 = .ok (.bipush 12, 2) := by decide +kernel
theorem dX4_addTourist_37 : decode cX4_addTourist 37 = .ok (.if_icmp .lt 13, 3) := by decide +kernel
theorem dX4_addTourist_40 : decode cX4_addTourist 40 = .ok (.new 30, 3) := by decide +kernel
theorem dX4_addTourist_43 : decode cX4_addTourist 43 = .ok (.dup, 1) := by decide +kernel
theorem dX4_addTourist_44 : decode cX4_addTourist 44 = .ok (.ldc 76, 2) := by decide +kernel
theorem dX4_addTourist_46 : decode cX4_addTourist 46 = .ok (.invokespecial 34, 3) := by decide +kernel
theorem dX4_addTourist_49 : decode cX4_addTourist 49 = .ok (.athrow, 1) := by decide +kernel
theorem dX4_addTourist_50 : decode cX4_addTourist 50 = .ok (.aload_n 0, 1) := by decide +kernel
theorem dX4_addTourist_51 : decode cX4_addTourist 51 = .ok (.iload_n 1, 1) := by decide +kernel
theorem dX4_addTourist_52 : decode cX4_addTourist 52 = .ok (.iload_n 2, 1) := by decide +kernel
theorem dX4_addTourist_53 : decode cX4_addTourist 53 = .ok (.invokevirtual 78, 3) := by decide +kernel
theorem dX4_addTourist_56 : decode cX4_addTourist 56 = .ok (.istore_n 3, 1) := by decide +kernel
theorem dX4_addTourist_57 : decode cX4_addTourist 57 = .ok (.iload_n 3, 1) := by decide +kernel
theorem dX4_addTourist_58 : decode cX4_addTourist 58 = .ok (.ifCond .ge 13, 3) := by decide +kernel
theorem dX4_addTourist_61 : decode cX4_addTourist 61 = .ok (.new 30, 3) := by decide +kernel
theorem dX4_addTourist_64 : decode cX4_addTourist 64 = .ok (.dup, 1) := by decide +kernel
theorem dX4_addTourist_65 : decode cX4_addTourist 65 = .ok (.ldc 82, 2) := by decide +kernel
theorem dX4_addTourist_67 : decode cX4_addTourist 67 = .ok (.invokespecial 34, 3) := by decide +kernel
theorem dX4_addTourist_70 : decode cX4_addTourist 70 = .ok (.athrow, 1) := by decide +kernel
theorem dX4_addTourist_71 : decode cX4_addTourist 71 = .ok (.aload_n 0, 1) := by decide +kernel
theorem dX4_addTourist_72 : decode cX4_addTourist 72 = .ok (.getfield 10, 3) := by decide +kernel
theorem dX4_addTourist_75 : decode cX4_addTourist 75 = .ok (.getfield 69, 3) := by decide +kernel
theorem dX4_addTourist_78 : decode cX4_addTourist 78 = .ok (.iload_n 1, 1) := by decide +kernel
theorem dX4_addTourist_79 : decode cX4_addTourist 79 = .ok (.iload_n 2, 1) := by decide +kernel
theorem dX4_addTourist_80 : decode cX4_addTourist 80 = .ok (.iload_n 3, 1) := by decide +kernel
theorem dX4_addTourist_81 : decode cX4_addTourist 81 = .ok (.aload_n 0, 1) := by decide +kernel
theorem dX4_addTourist_82 : decode cX4_addTourist 82 = .ok (.getfield 10, 3) := by decide +kernel
theorem dX4_addTourist_85 : decode cX4_addTourist 85 = .ok (.getfield 84, 3) := by decide +kernel
theorem dX4_addTourist_88 : decode cX4_addTourist 88 = .ok (.invokevirtual 87, 3) := by decide +kernel
theorem dX4_addTourist_91 : decode cX4_addTourist 91 = .ok (.ireturn, 1) := by decide +kernel
theorem dX4_mend_0 : decode cX4_mend 0 = .ok (.aload_n 0, 1) := by decide +kernel
theorem dX4_mend_1 : decode cX4_mend 1 = .ok (.iload_n 1, 1) := by decide +kernel
theorem dX4_mend_2 : decode cX4_mend 2 = .ok (.invokevirtual 90, 3) := by decide +kernel
theorem dX4_mend_5 : decode cX4_mend 5 = .ok (.iload_n 2, 1) := by decide +kernel
theorem dX4_mend_6 : decode cX4_mend 6 = .ok (.iconst 1, 1) := by decide +kernel
theorem dX4_mend_7 : decode cX4_mend 7 = .ok (.if_icmp .lt 9, 3) := by decide +kernel
theorem dX4_mend_10 : decode cX4_mend 10 = .ok (.iload_n 2, 1) := by decide +kernel
theorem dX4_mend_11 : decode cX4_mend 11 = .ok (.bipush 20, 2) := by decide +kernel
theorem dX4_mend_13 : decode cX4_mend 13 = .ok (.if_icmp .le 13, 3) := by decide +kernel
theorem dX4_mend_16 : decode cX4_mend 16 = .ok (.new 45, 3) := by decide +kernel
theorem dX4_mend_19 : decode cX4_mend 19 = .ok (.dup, 1) := by decide +kernel
theorem dX4_mend_20 : decode cX4_mend 20 = .ok (.ldc 93, 2) := by decide +kernel
theorem dX4_mend_22 : decode cX4_mend 22 = .ok (.invokespecial 49, 3) := by decide +kernel
theorem dX4_mend_25 : decode cX4_mend 25 = .ok (.athrow, 1) := by decide +kernel
theorem dX4_mend_26 : decode cX4_mend 26 = .ok (.aload_n 0, 1) := by decide +kernel
theorem dX4_mend_27 : decode cX4_mend 27 = .ok (.getfield 10, 3) := by decide +kernel
theorem dX4_mend_30 : decode cX4_mend 30 = .ok (.getfield 54, 3) := by decide +kernel
theorem dX4_mend_33 : decode cX4_mend 33 = .ok (.getfield 95, 3) := by decide +kernel
theorem dX4_mend_36 : decode cX4_mend 36 = .ok (.iload_n 1, 1) := by decide +kernel
theorem dX4_mend_37 : decode cX4_mend 37 = .ok (.iaload, 1) := by decide +kernel
theorem dX4_mend_38 : decode cX4_mend 38 = .ok (.ifCond .le 13, 3) := by decide +kernel
theorem dX4_mend_41 : decode cX4_mend 41 = .ok (.new 30, 3) := by decide +kernel
theorem dX4_mend_44 : decode cX4_mend 44 = .ok (.dup, 1) := by decide +kernel
theorem dX4_mend_45 : decode cX4_mend 45 = .ok (.ldc 99, 2) := by decide +kernel
theorem dX4_mend_47 : decode cX4_mend 47 = .ok (.invokespecial 34, 3) := by decide +kernel
theorem dX4_mend_50 : decode cX4_mend 50 = .ok (.athrow, 1) := by decide +kernel
theorem dX4_mend_51 : decode cX4_mend 51 = .ok (.aload_n 0, 1) := by decide +kernel
theorem dX4_mend_52 : decode cX4_mend 52 = .ok (.getfield 10, 3) := by decide +kernel
theorem dX4_mend_55 : decode cX4_mend 55 = .ok (.iload_n 1, 1) := by decide +kernel
theorem dX4_mend_56 : decode cX4_mend 56 = .ok (.iload_n 2, 1) := by decide +kernel
theorem dX4_mend_57 : decode cX4_mend 57 = .ok (.invokevirtual 101, 3) := by decide +kernel
theorem dX4_mend_60 : decode cX4_mend 60 = .ok (.aload_n 0, 1) := by decide +kernel
theorem dX4_mend_61 : decode cX4_mend 61 = .ok (.getfield 10, 3) := by decide +kernel
theorem dX4_mend_64 : decode cX4_mend 64 = .ok (.getfield 54, 3) := by decide +kernel
theorem dX4_mend_67 : decode cX4_mend 67 = .ok (.getfield 105, 3) := by decide +kernel
theorem dX4_mend_70 : decode cX4_mend 70 = .ok (.iload_n 1, 1) := by decide +kernel
theorem dX4_mend_71 : decode cX4_mend 71 = .ok (.iaload, 1) := by decide +kernel
theorem dX4_mend_72 : decode cX4_mend 72 = .ok (.ireturn, 1) := by decide +kernel
theorem dX4_cutKnots_0 : decode cX4_cutKnots 0 = .ok (.aload_n 0, 1) := by decide +kernel
theorem dX4_cutKnots_1 : decode cX4_cutKnots 1 = .ok (.iload_n 1, 1) := by decide +kernel
theorem dX4_cutKnots_2 : decode cX4_cutKnots 2 = .ok (.invokevirtual 90, 3) := by decide +kernel
theorem dX4_cutKnots_5 : decode cX4_cutKnots 5 = .ok (.aload_n 0, 1) := by decide +kernel
theorem dX4_cutKnots_6 : decode cX4_cutKnots 6 = .ok (.getfield 10, 3) := by decide +kernel
theorem dX4_cutKnots_9 : decode cX4_cutKnots 9 = .ok (.getfield 54, 3) := by decide +kernel
theorem dX4_cutKnots_12 : decode cX4_cutKnots 12 = .ok (.getfield 95, 3) := by decide +kernel
theorem dX4_cutKnots_15 : decode cX4_cutKnots 15 = .ok (.iload_n 1, 1) := by decide +kernel
theorem dX4_cutKnots_16 : decode cX4_cutKnots 16 = .ok (.iaload, 1) := by decide +kernel
theorem dX4_cutKnots_17 : decode cX4_cutKnots 17 = .ok (.ifCond .le 13, 3) := by decide +kernel
theorem dX4_cutKnots_20 : decode cX4_cutKnots 20 = .ok (.new 30, 3) := by decide +kernel
theorem dX4_cutKnots_23 : decode cX4_cutKnots 23 = .ok (.dup, 1) := by decide +kernel
theorem dX4_cutKnots_24 : decode cX4_cutKnots 24 = .ok (.ldc 99, 2) := by decide +kernel
theorem dX4_cutKnots_26 : decode cX4_cutKnots 26 = .ok (.invokespecial 34, 3) := by decide +kernel
theorem dX4_cutKnots_29 : decode cX4_cutKnots 29 = .ok (.athrow, 1) := by decide +kernel
theorem dX4_cutKnots_30 : decode cX4_cutKnots 30 = .ok (.aload_n 0, 1) := by decide +kernel
theorem dX4_cutKnots_31 : decode cX4_cutKnots 31 = .ok (.getfield 10, 3) := by decide +kernel
theorem dX4_cutKnots_34 : decode cX4_cutKnots 34 = .ok (.getfield 69, 3) := by decide +kernel
theorem dX4_cutKnots_37 : decode cX4_cutKnots 37 = .ok (.iload_n 1, 1) := by decide +kernel
theorem dX4_cutKnots_38 : decode cX4_cutKnots 38 = .ok (.invokevirtual 108, 3) := by decide +kernel
theorem dX4_cutKnots_41 : decode cX4_cutKnots 41 = .ok (.ifCond .le 13, 3) := by decide +kernel
theorem dX4_cutKnots_44 : decode cX4_cutKnots 44 = .ok (.new 30, 3) := by decide +kernel
theorem dX4_cutKnots_47 : decode cX4_cutKnots 47 = .ok (.dup, 1) := by decide +kernel
theorem dX4_cutKnots_48 : decode cX4_cutKnots 48 = .ok (.ldc 112, 2) := by decide +kernel
theorem dX4_cutKnots_50 : decode cX4_cutKnots 50 = .ok (.invokespecial 34, 3) := by decide +kernel
theorem dX4_cutKnots_53 : decode cX4_cutKnots 53 = .ok (.athrow, 1) := by decide +kernel
theorem dX4_cutKnots_54 : decode cX4_cutKnots 54 = .ok (.aload_n 0, 1) := by decide +kernel
theorem dX4_cutKnots_55 : decode cX4_cutKnots 55 = .ok (.getfield 10, 3) := by decide +kernel
theorem dX4_cutKnots_58 : decode cX4_cutKnots 58 = .ok (.iload_n 1, 1) := by decide +kernel
theorem dX4_cutKnots_59 : decode cX4_cutKnots 59 = .ok (.invokevirtual 114, 3) := by decide +kernel
theorem dX4_cutKnots_62 : decode cX4_cutKnots 62 = .ok (.ireturn, 1) := by decide +kernel
theorem dX4_pass_0 : decode cX4_pass 0 = .ok (.aload_n 0, 1) := by decide +kernel
theorem dX4_pass_1 : decode cX4_pass 1 = .ok (.iload_n 1, 1) := by decide +kernel
theorem dX4_pass_2 : decode cX4_pass 2 = .ok (.invokevirtual 117, 3) := by decide +kernel
theorem dX4_pass_5 : decode cX4_pass 5 = .ok (.aload_n 0, 1) := by decide +kernel
theorem dX4_pass_6 : decode cX4_pass 6 = .ok (.getfield 10, 3) := by decide +kernel
theorem dX4_pass_9 : decode cX4_pass 9 = .ok (.getfield 69, 3) := by decide +kernel
theorem dX4_pass_12 : decode cX4_pass 12 = .ok (.getfield 120, 3) := by decide +kernel
theorem dX4_pass_15 : decode cX4_pass 15 = .ok (.istore_n 2, 1) := by decide +kernel
theorem dX4_pass_16 : decode cX4_pass 16 = .ok (.iconst 0, 1) := by decide +kernel
theorem dX4_pass_17 : decode cX4_pass 17 = .ok (.istore_n 3, 1) := by decide +kernel
theorem dX4_pass_18 : decode cX4_pass 18 = .ok (.iload_n 3, 1) := by decide +kernel
theorem dX4_pass_19 : decode cX4_pass 19 = .ok (.iload_n 1, 1) := by decide +kernel
theorem dX4_pass_20 : decode cX4_pass 20 = .ok (.if_icmp .ge 16, 3) := by decide +kernel
theorem dX4_pass_23 : decode cX4_pass 23 = .ok (.aload_n 0, 1) := by decide +kernel
theorem dX4_pass_24 : decode cX4_pass 24 = .ok (.getfield 10, 3) := by decide +kernel
theorem dX4_pass_27 : decode cX4_pass 27 = .ok (.invokevirtual 123, 3) := by decide +kernel
theorem dX4_pass_30 : decode cX4_pass 30 = .ok (.iinc 3 1, 3) := by decide +kernel
theorem dX4_pass_33 : decode cX4_pass 33 = .ok (.goto (-15), 3) := by decide +kernel
theorem dX4_pass_36 : decode cX4_pass 36 = .ok (.aload_n 0, 1) := by decide +kernel
theorem dX4_pass_37 : decode cX4_pass 37 = .ok (.getfield 10, 3) := by decide +kernel
theorem dX4_pass_40 : decode cX4_pass 40 = .ok (.getfield 69, 3) := by decide +kernel
theorem dX4_pass_43 : decode cX4_pass 43 = .ok (.getfield 120, 3) := by decide +kernel
theorem dX4_pass_46 : decode cX4_pass 46 = .ok (.iload_n 2, 1) := by decide +kernel
theorem dX4_pass_47 : decode cX4_pass 47 = .ok (.isub, 1) := by decide +kernel
theorem dX4_pass_48 : decode cX4_pass 48 = .ok (.ireturn, 1) := by decide +kernel
theorem dX4_hour_0 : decode cX4_hour 0 = .ok (.aload_n 0, 1) := by decide +kernel
theorem dX4_hour_1 : decode cX4_hour 1 = .ok (.getfield 10, 3) := by decide +kernel
theorem dX4_hour_4 : decode cX4_hour 4 = .ok (.getfield 84, 3) := by decide +kernel
theorem dX4_hour_7 : decode cX4_hour 7 = .ok (.ireturn, 1) := by decide +kernel
theorem dX4_crossings_0 : decode cX4_crossings 0 = .ok (.aload_n 0, 1) := by decide +kernel
theorem dX4_crossings_1 : decode cX4_crossings 1 = .ok (.getfield 10, 3) := by decide +kernel
theorem dX4_crossings_4 : decode cX4_crossings 4 = .ok (.getfield 26, 3) := by decide +kernel
theorem dX4_crossings_7 : decode cX4_crossings 7 = .ok (.ireturn, 1) := by decide +kernel
theorem dX4_roads_0 : decode cX4_roads 0 = .ok (.aload_n 0, 1) := by decide +kernel
theorem dX4_roads_1 : decode cX4_roads 1 = .ok (.getfield 10, 3) := by decide +kernel
theorem dX4_roads_4 : decode cX4_roads 4 = .ok (.getfield 54, 3) := by decide +kernel
theorem dX4_roads_7 : decode cX4_roads 7 = .ok (.getfield 58, 3) := by decide +kernel
theorem dX4_roads_10 : decode cX4_roads 10 = .ok (.ireturn, 1) := by decide +kernel
theorem dX4_tourists_0 : decode cX4_tourists 0 = .ok (.aload_n 0, 1) := by decide +kernel
theorem dX4_tourists_1 : decode cX4_tourists 1 = .ok (.getfield 10, 3) := by decide +kernel
theorem dX4_tourists_4 : decode cX4_tourists 4 = .ok (.getfield 69, 3) := by decide +kernel
theorem dX4_tourists_7 : decode cX4_tourists 7 = .ok (.getfield 73, 3) := by decide +kernel
theorem dX4_tourists_10 : decode cX4_tourists 10 = .ok (.ireturn, 1) := by decide +kernel
theorem dX4_arrived_0 : decode cX4_arrived 0 = .ok (.aload_n 0, 1) := by decide +kernel
theorem dX4_arrived_1 : decode cX4_arrived 1 = .ok (.getfield 10, 3) := by decide +kernel
theorem dX4_arrived_4 : decode cX4_arrived 4 = .ok (.getfield 69, 3) := by decide +kernel
theorem dX4_arrived_7 : decode cX4_arrived 7 = .ok (.getfield 120, 3) := by decide +kernel
theorem dX4_arrived_10 : decode cX4_arrived 10 = .ok (.ireturn, 1) := by decide +kernel
theorem dX4_closedRoads_0 : decode cX4_closedRoads 0 = .ok (.aload_n 0, 1) := by decide +kernel
theorem dX4_closedRoads_1 : decode cX4_closedRoads 1 = .ok (.getfield 10, 3) := by decide +kernel
theorem dX4_closedRoads_4 : decode cX4_closedRoads 4 = .ok (.getfield 54, 3) := by decide +kernel
theorem dX4_closedRoads_7 : decode cX4_closedRoads 7 = .ok (.invokevirtual 126, 3) := by decide +kernel
theorem dX4_closedRoads_10 : decode cX4_closedRoads 10 = .ok (.ireturn, 1) := by decide +kernel
theorem dX4_allFrayed_0 : decode cX4_allFrayed 0 = .ok (.aload_n 0, 1) := by decide +kernel
theorem dX4_allFrayed_1 : decode cX4_allFrayed 1 = .ok (.getfield 10, 3) := by decide +kernel
theorem dX4_allFrayed_4 : decode cX4_allFrayed 4 = .ok (.getfield 69, 3) := by decide +kernel
theorem dX4_allFrayed_7 : decode cX4_allFrayed 7 = .ok (.invokevirtual 129, 3) := by decide +kernel
theorem dX4_allFrayed_10 : decode cX4_allFrayed 10 = .ok (.ireturn, 1) := by decide +kernel
theorem dX4_lengthOf_0 : decode cX4_lengthOf 0 = .ok (.aload_n 0, 1) := by decide +kernel
theorem dX4_lengthOf_1 : decode cX4_lengthOf 1 = .ok (.iload_n 1, 1) := by decide +kernel
theorem dX4_lengthOf_2 : decode cX4_lengthOf 2 = .ok (.invokevirtual 90, 3) := by decide +kernel
theorem dX4_lengthOf_5 : decode cX4_lengthOf 5 = .ok (.aload_n 0, 1) := by decide +kernel
theorem dX4_lengthOf_6 : decode cX4_lengthOf 6 = .ok (.getfield 10, 3) := by decide +kernel
theorem dX4_lengthOf_9 : decode cX4_lengthOf 9 = .ok (.getfield 54, 3) := by decide +kernel
theorem dX4_lengthOf_12 : decode cX4_lengthOf 12 = .ok (.iload_n 1, 1) := by decide +kernel
theorem dX4_lengthOf_13 : decode cX4_lengthOf 13 = .ok (.invokevirtual 132, 3) := by decide +kernel
theorem dX4_lengthOf_16 : decode cX4_lengthOf 16 = .ok (.ireturn, 1) := by decide +kernel
theorem dX4_wearOf_0 : decode cX4_wearOf 0 = .ok (.aload_n 0, 1) := by decide +kernel
theorem dX4_wearOf_1 : decode cX4_wearOf 1 = .ok (.iload_n 1, 1) := by decide +kernel
theorem dX4_wearOf_2 : decode cX4_wearOf 2 = .ok (.invokevirtual 90, 3) := by decide +kernel
theorem dX4_wearOf_5 : decode cX4_wearOf 5 = .ok (.aload_n 0, 1) := by decide +kernel
theorem dX4_wearOf_6 : decode cX4_wearOf 6 = .ok (.getfield 10, 3) := by decide +kernel
theorem dX4_wearOf_9 : decode cX4_wearOf 9 = .ok (.getfield 54, 3) := by decide +kernel
theorem dX4_wearOf_12 : decode cX4_wearOf 12 = .ok (.getfield 105, 3) := by decide +kernel
theorem dX4_wearOf_15 : decode cX4_wearOf 15 = .ok (.iload_n 1, 1) := by decide +kernel
theorem dX4_wearOf_16 : decode cX4_wearOf 16 = .ok (.iaload, 1) := by decide +kernel
theorem dX4_wearOf_17 : decode cX4_wearOf 17 = .ok (.ireturn, 1) := by decide +kernel
theorem dX4_knotsOf_0 : decode cX4_knotsOf 0 = .ok (.aload_n 0, 1) := by decide +kernel
theorem dX4_knotsOf_1 : decode cX4_knotsOf 1 = .ok (.iload_n 1, 1) := by decide +kernel
theorem dX4_knotsOf_2 : decode cX4_knotsOf 2 = .ok (.invokevirtual 90, 3) := by decide +kernel
theorem dX4_knotsOf_5 : decode cX4_knotsOf 5 = .ok (.aload_n 0, 1) := by decide +kernel
theorem dX4_knotsOf_6 : decode cX4_knotsOf 6 = .ok (.getfield 10, 3) := by decide +kernel
theorem dX4_knotsOf_9 : decode cX4_knotsOf 9 = .ok (.getfield 54, 3) := by decide +kernel
theorem dX4_knotsOf_12 : decode cX4_knotsOf 12 = .ok (.getfield 135, 3) := by decide +kernel
theorem dX4_knotsOf_15 : decode cX4_knotsOf 15 = .ok (.iload_n 1, 1) := by decide +kernel
theorem dX4_knotsOf_16 : decode cX4_knotsOf 16 = .ok (.iaload, 1) := by decide +kernel
theorem dX4_knotsOf_17 : decode cX4_knotsOf 17 = .ok (.ireturn, 1) := by decide +kernel
theorem dX4_closedFor_0 : decode cX4_closedFor 0 = .ok (.aload_n 0, 1) := by decide +kernel
theorem dX4_closedFor_1 : decode cX4_closedFor 1 = .ok (.iload_n 1, 1) := by decide +kernel
theorem dX4_closedFor_2 : decode cX4_closedFor 2 = .ok (.invokevirtual 90, 3) := by decide +kernel
theorem dX4_closedFor_5 : decode cX4_closedFor 5 = .ok (.aload_n 0, 1) := by decide +kernel
theorem dX4_closedFor_6 : decode cX4_closedFor 6 = .ok (.getfield 10, 3) := by decide +kernel
theorem dX4_closedFor_9 : decode cX4_closedFor 9 = .ok (.getfield 54, 3) := by decide +kernel
theorem dX4_closedFor_12 : decode cX4_closedFor 12 = .ok (.getfield 95, 3) := by decide +kernel
theorem dX4_closedFor_15 : decode cX4_closedFor 15 = .ok (.iload_n 1, 1) := by decide +kernel
theorem dX4_closedFor_16 : decode cX4_closedFor 16 = .ok (.iaload, 1) := by decide +kernel
theorem dX4_closedFor_17 : decode cX4_closedFor 17 = .ok (.ireturn, 1) := by decide +kernel
theorem dX4_touristsOn_0 : decode cX4_touristsOn 0 = .ok (.aload_n 0, 1) := by decide +kernel
theorem dX4_touristsOn_1 : decode cX4_touristsOn 1 = .ok (.iload_n 1, 1) := by decide +kernel
theorem dX4_touristsOn_2 : decode cX4_touristsOn 2 = .ok (.invokevirtual 90, 3) := by decide +kernel
theorem dX4_touristsOn_5 : decode cX4_touristsOn 5 = .ok (.aload_n 0, 1) := by decide +kernel
theorem dX4_touristsOn_6 : decode cX4_touristsOn 6 = .ok (.getfield 10, 3) := by decide +kernel
theorem dX4_touristsOn_9 : decode cX4_touristsOn 9 = .ok (.getfield 69, 3) := by decide +kernel
theorem dX4_touristsOn_12 : decode cX4_touristsOn 12 = .ok (.iload_n 1, 1) := by decide +kernel
theorem dX4_touristsOn_13 : decode cX4_touristsOn 13 = .ok (.invokevirtual 108, 3) := by decide +kernel
theorem dX4_touristsOn_16 : decode cX4_touristsOn 16 = .ok (.ireturn, 1) := by decide +kernel
theorem dX4_mostWorn_0 : decode cX4_mostWorn 0 = .ok (.aload_n 0, 1) := by decide +kernel
theorem dX4_mostWorn_1 : decode cX4_mostWorn 1 = .ok (.getfield 10, 3) := by decide +kernel
theorem dX4_mostWorn_4 : decode cX4_mostWorn 4 = .ok (.getfield 54, 3) := by decide +kernel
theorem dX4_mostWorn_7 : decode cX4_mostWorn 7 = .ok (.invokevirtual 138, 3) := by decide +kernel
theorem dX4_mostWorn_10 : decode cX4_mostWorn 10 = .ok (.ireturn, 1) := by decide +kernel
theorem dX4_openDistance_0 : decode cX4_openDistance 0 = .ok (.aload_n 0, 1) := by decide +kernel
theorem dX4_openDistance_1 : decode cX4_openDistance 1 = .ok (.iload_n 1, 1) := by decide +kernel
theorem dX4_openDistance_2 : decode cX4_openDistance 2 = .ok (.invokevirtual 41, 3) := by decide +kernel
theorem dX4_openDistance_5 : decode cX4_openDistance 5 = .ok (.aload_n 0, 1) := by decide +kernel
theorem dX4_openDistance_6 : decode cX4_openDistance 6 = .ok (.iload_n 2, 1) := by decide +kernel
theorem dX4_openDistance_7 : decode cX4_openDistance 7 = .ok (.invokevirtual 41, 3) := by decide +kernel
theorem dX4_openDistance_10 : decode cX4_openDistance 10 = .ok (.aload_n 0, 1) := by decide +kernel
theorem dX4_openDistance_11 : decode cX4_openDistance 11 = .ok (.getfield 10, 3) := by decide +kernel
theorem dX4_openDistance_14 : decode cX4_openDistance 14 = .ok (.invokevirtual 141, 3) := by decide +kernel
theorem dX4_openDistance_17 : decode cX4_openDistance 17 = .ok (.aload_n 0, 1) := by decide +kernel
theorem dX4_openDistance_18 : decode cX4_openDistance 18 = .ok (.getfield 10, 3) := by decide +kernel
theorem dX4_openDistance_21 : decode cX4_openDistance 21 = .ok (.getfield 144, 3) := by decide +kernel
theorem dX4_openDistance_24 : decode cX4_openDistance 24 = .ok (.iload_n 1, 1) := by decide +kernel
theorem dX4_openDistance_25 : decode cX4_openDistance 25 = .ok (.iload_n 2, 1) := by decide +kernel
theorem dX4_openDistance_26 : decode cX4_openDistance 26 = .ok (.invokevirtual 147, 3) := by decide +kernel
theorem dX4_openDistance_29 : decode cX4_openDistance 29 = .ok (.ireturn, 1) := by decide +kernel
theorem dX4_distance_0 : decode cX4_distance 0 = .ok (.aload_n 0, 1) := by decide +kernel
theorem dX4_distance_1 : decode cX4_distance 1 = .ok (.iload_n 1, 1) := by decide +kernel
theorem dX4_distance_2 : decode cX4_distance 2 = .ok (.invokevirtual 41, 3) := by decide +kernel
theorem dX4_distance_5 : decode cX4_distance 5 = .ok (.aload_n 0, 1) := by decide +kernel
theorem dX4_distance_6 : decode cX4_distance 6 = .ok (.iload_n 2, 1) := by decide +kernel
theorem dX4_distance_7 : decode cX4_distance 7 = .ok (.invokevirtual 41, 3) := by decide +kernel
theorem dX4_distance_10 : decode cX4_distance 10 = .ok (.aload_n 0, 1) := by decide +kernel
theorem dX4_distance_11 : decode cX4_distance 11 = .ok (.getfield 22, 3) := by decide +kernel
theorem dX4_distance_14 : decode cX4_distance 14 = .ok (.aload_n 0, 1) := by decide +kernel
theorem dX4_distance_15 : decode cX4_distance 15 = .ok (.getfield 10, 3) := by decide +kernel
theorem dX4_distance_18 : decode cX4_distance 18 = .ok (.getfield 54, 3) := by decide +kernel
theorem dX4_distance_21 : decode cX4_distance 21 = .ok (.aload_n 0, 1) := by decide +kernel
theorem dX4_distance_22 : decode cX4_distance 22 = .ok (.getfield 10, 3) := by decide +kernel
theorem dX4_distance_25 : decode cX4_distance 25 = .ok (.getfield 26, 3) := by decide +kernel
theorem dX4_distance_28 : decode cX4_distance 28 = .ok (.iconst 0, 1) := by decide +kernel
theorem dX4_distance_29 : decode cX4_distance 29 = .ok (.invokevirtual 150, 3) := by decide +kernel
theorem dX4_distance_32 : decode cX4_distance 32 = .ok (.aload_n 0, 1) := by decide +kernel
theorem dX4_distance_33 : decode cX4_distance 33 = .ok (.getfield 22, 3) := by decide +kernel
theorem dX4_distance_36 : decode cX4_distance 36 = .ok (.iload_n 1, 1) := by decide +kernel
theorem dX4_distance_37 : decode cX4_distance 37 = .ok (.iload_n 2, 1) := by decide +kernel
theorem dX4_distance_38 : decode cX4_distance 38 = .ok (.invokevirtual 147, 3) := by decide +kernel
theorem dX4_distance_41 : decode cX4_distance 41 = .ok (.ireturn, 1) := by decide +kernel
theorem dX4_nextRoad_0 : decode cX4_nextRoad 0 = .ok (.aload_n 0, 1) := by decide +kernel
theorem dX4_nextRoad_1 : decode cX4_nextRoad 1 = .ok (.iload_n 1, 1) := by decide +kernel
theorem dX4_nextRoad_2 : decode cX4_nextRoad 2 = .ok (.invokevirtual 41, 3) := by decide +kernel
theorem dX4_nextRoad_5 : decode cX4_nextRoad 5 = .ok (.aload_n 0, 1) := by decide +kernel
theorem dX4_nextRoad_6 : decode cX4_nextRoad 6 = .ok (.iload_n 2, 1) := by decide +kernel
theorem dX4_nextRoad_7 : decode cX4_nextRoad 7 = .ok (.invokevirtual 41, 3) := by decide +kernel
theorem dX4_nextRoad_10 : decode cX4_nextRoad 10 = .ok (.iload_n 1, 1) := by decide +kernel
theorem dX4_nextRoad_11 : decode cX4_nextRoad 11 = .ok (.iload_n 2, 1) := by decide +kernel
theorem dX4_nextRoad_12 : decode cX4_nextRoad 12 = .ok (.if_icmp .ne 5, 3) := by decide +kernel
theorem dX4_nextRoad_15 : decode cX4_nextRoad 15 = .ok (.iconst (-1), 1) := by decide +kernel
theorem dX4_nextRoad_16 : decode cX4_nextRoad 16 = .ok (.ireturn, 1) := by decide +kernel
theorem dX4_nextRoad_17 : decode cX4_nextRoad 17 = .ok (.aload_n 0, 1) := by decide +kernel
theorem dX4_nextRoad_18 : decode cX4_nextRoad 18 = .ok (.getfield 10, 3) := by decide +kernel
theorem dX4_nextRoad_21 : decode cX4_nextRoad 21 = .ok (.invokevirtual 141, 3) := by decide +kernel
theorem dX4_nextRoad_24 : decode cX4_nextRoad 24 = .ok (.aload_n 0, 1) := by decide +kernel
theorem dX4_nextRoad_25 : decode cX4_nextRoad 25 = .ok (.getfield 10, 3) := by decide +kernel
theorem dX4_nextRoad_28 : decode cX4_nextRoad 28 = .ok (.iload_n 1, 1) := by decide +kernel
theorem dX4_nextRoad_29 : decode cX4_nextRoad 29 = .ok (.iload_n 2, 1) := by decide +kernel
theorem dX4_nextRoad_30 : decode cX4_nextRoad 30 = .ok (.invokevirtual 154, 3) := by decide +kernel
theorem dX4_nextRoad_33 : decode cX4_nextRoad 33 = .ok (.ireturn, 1) := by decide +kernel
theorem dX4_placeOf_0 : decode cX4_placeOf 0 = .ok (.aload_n 0, 1) := by decide +kernel
theorem dX4_placeOf_1 : decode cX4_placeOf 1 = .ok (.iload_n 1, 1) := by decide +kernel
theorem dX4_placeOf_2 : decode cX4_placeOf 2 = .ok (.invokevirtual 160, 3) := by decide +kernel
theorem dX4_placeOf_5 : decode cX4_placeOf 5 = .ok (.aload_n 0, 1) := by decide +kernel
theorem dX4_placeOf_6 : decode cX4_placeOf 6 = .ok (.getfield 10, 3) := by decide +kernel
theorem dX4_placeOf_9 : decode cX4_placeOf 9 = .ok (.getfield 69, 3) := by decide +kernel
theorem dX4_placeOf_12 : decode cX4_placeOf 12 = .ok (.getfield 163, 3) := by decide +kernel
theorem dX4_placeOf_15 : decode cX4_placeOf 15 = .ok (.iload_n 1, 1) := by decide +kernel
theorem dX4_placeOf_16 : decode cX4_placeOf 16 = .ok (.iaload, 1) := by decide +kernel
theorem dX4_placeOf_17 : decode cX4_placeOf 17 = .ok (.ireturn, 1) := by decide +kernel
theorem dX4_roadOf_0 : decode cX4_roadOf 0 = .ok (.aload_n 0, 1) := by decide +kernel
theorem dX4_roadOf_1 : decode cX4_roadOf 1 = .ok (.iload_n 1, 1) := by decide +kernel
theorem dX4_roadOf_2 : decode cX4_roadOf 2 = .ok (.invokevirtual 160, 3) := by decide +kernel
theorem dX4_roadOf_5 : decode cX4_roadOf 5 = .ok (.aload_n 0, 1) := by decide +kernel
theorem dX4_roadOf_6 : decode cX4_roadOf 6 = .ok (.getfield 10, 3) := by decide +kernel
theorem dX4_roadOf_9 : decode cX4_roadOf 9 = .ok (.getfield 69, 3) := by decide +kernel
theorem dX4_roadOf_12 : decode cX4_roadOf 12 = .ok (.getfield 166, 3) := by decide +kernel
theorem dX4_roadOf_15 : decode cX4_roadOf 15 = .ok (.iload_n 1, 1) := by decide +kernel
theorem dX4_roadOf_16 : decode cX4_roadOf 16 = .ok (.iaload, 1) := by decide +kernel
theorem dX4_roadOf_17 : decode cX4_roadOf 17 = .ok (.ireturn, 1) := by decide +kernel
theorem dX4_dyeOf_0 : decode cX4_dyeOf 0 = .ok (.aload_n 0, 1) := by decide +kernel
theorem dX4_dyeOf_1 : decode cX4_dyeOf 1 = .ok (.iload_n 1, 1) := by decide +kernel
theorem dX4_dyeOf_2 : decode cX4_dyeOf 2 = .ok (.invokevirtual 160, 3) := by decide +kernel
theorem dX4_dyeOf_5 : decode cX4_dyeOf 5 = .ok (.aload_n 0, 1) := by decide +kernel
theorem dX4_dyeOf_6 : decode cX4_dyeOf 6 = .ok (.getfield 10, 3) := by decide +kernel
theorem dX4_dyeOf_9 : decode cX4_dyeOf 9 = .ok (.getfield 69, 3) := by decide +kernel
theorem dX4_dyeOf_12 : decode cX4_dyeOf 12 = .ok (.getfield 169, 3) := by decide +kernel
theorem dX4_dyeOf_15 : decode cX4_dyeOf 15 = .ok (.iload_n 1, 1) := by decide +kernel
theorem dX4_dyeOf_16 : decode cX4_dyeOf 16 = .ok (.iaload, 1) := by decide +kernel
theorem dX4_dyeOf_17 : decode cX4_dyeOf 17 = .ok (.ireturn, 1) := by decide +kernel
theorem dX4_frayOf_0 : decode cX4_frayOf 0 = .ok (.aload_n 0, 1) := by decide +kernel
theorem dX4_frayOf_1 : decode cX4_frayOf 1 = .ok (.iload_n 1, 1) := by decide +kernel
theorem dX4_frayOf_2 : decode cX4_frayOf 2 = .ok (.invokevirtual 160, 3) := by decide +kernel
theorem dX4_frayOf_5 : decode cX4_frayOf 5 = .ok (.aload_n 0, 1) := by decide +kernel
theorem dX4_frayOf_6 : decode cX4_frayOf 6 = .ok (.getfield 10, 3) := by decide +kernel
theorem dX4_frayOf_9 : decode cX4_frayOf 9 = .ok (.getfield 69, 3) := by decide +kernel
theorem dX4_frayOf_12 : decode cX4_frayOf 12 = .ok (.iload_n 1, 1) := by decide +kernel
theorem dX4_frayOf_13 : decode cX4_frayOf 13 = .ok (.aload_n 0, 1) := by decide +kernel
theorem dX4_frayOf_14 : decode cX4_frayOf 14 = .ok (.getfield 10, 3) := by decide +kernel
theorem dX4_frayOf_17 : decode cX4_frayOf 17 = .ok (.getfield 84, 3) := by decide +kernel
theorem dX4_frayOf_20 : decode cX4_frayOf 20 = .ok (.invokevirtual 172, 3) := by decide +kernel
theorem dX4_frayOf_23 : decode cX4_frayOf 23 = .ok (.ireturn, 1) := by decide +kernel
theorem dX4_hasArrived_0 : decode cX4_hasArrived 0 = .ok (.aload_n 0, 1) := by decide +kernel
theorem dX4_hasArrived_1 : decode cX4_hasArrived 1 = .ok (.iload_n 1, 1) := by decide +kernel
theorem dX4_hasArrived_2 : decode cX4_hasArrived 2 = .ok (.invokevirtual 160, 3) := by decide +kernel
theorem dX4_hasArrived_5 : decode cX4_hasArrived 5 = .ok (.aload_n 0, 1) := by decide +kernel
theorem dX4_hasArrived_6 : decode cX4_hasArrived 6 = .ok (.getfield 10, 3) := by decide +kernel
theorem dX4_hasArrived_9 : decode cX4_hasArrived 9 = .ok (.getfield 69, 3) := by decide +kernel
theorem dX4_hasArrived_12 : decode cX4_hasArrived 12 = .ok (.iload_n 1, 1) := by decide +kernel
theorem dX4_hasArrived_13 : decode cX4_hasArrived 13 = .ok (.invokevirtual 175, 3) := by decide +kernel
theorem dX4_hasArrived_16 : decode cX4_hasArrived 16 = .ok (.ireturn, 1) := by decide +kernel
theorem dX4_meanLength_0 : decode cX4_meanLength 0 = .ok (.aload_n 0, 1) := by decide +kernel
theorem dX4_meanLength_1 : decode cX4_meanLength 1 = .ok (.getfield 10, 3) := by decide +kernel
theorem dX4_meanLength_4 : decode cX4_meanLength 4 = .ok (.getfield 54, 3) := by decide +kernel
theorem dX4_meanLength_7 : decode cX4_meanLength 7 = .ok (.getfield 58, 3) := by decide +kernel
theorem dX4_meanLength_10 : decode cX4_meanLength 10 = .ok (.istore_n 1, 1) := by decide +kernel
theorem dX4_meanLength_11 : decode cX4_meanLength 11 = .ok (.iload_n 1, 1) := by decide +kernel
theorem dX4_meanLength_12 : decode cX4_meanLength 12 = .ok (.ifCond .ne 5, 3) := by decide +kernel
theorem dX4_meanLength_15 : decode cX4_meanLength 15 = .ok (.dconst 0, 1) := by decide +kernel
theorem dX4_meanLength_16 : decode cX4_meanLength 16 = .ok (.dreturn, 1) := by decide +kernel
theorem dX4_meanLength_17 : decode cX4_meanLength 17 = .ok (.iconst 0, 1) := by decide +kernel
theorem dX4_meanLength_18 : decode cX4_meanLength 18 = .ok (.istore_n 2, 1) := by decide +kernel
theorem dX4_meanLength_19 : decode cX4_meanLength 19 = .ok (.iconst 0, 1) := by decide +kernel
theorem dX4_meanLength_20 : decode cX4_meanLength 20 = .ok (.istore_n 3, 1) := by decide +kernel
theorem dX4_meanLength_21 : decode cX4_meanLength 21 = .ok (.iload_n 3, 1) := by decide +kernel
theorem dX4_meanLength_22 : decode cX4_meanLength 22 = .ok (.iload_n 1, 1) := by decide +kernel
theorem dX4_meanLength_23 : decode cX4_meanLength 23 = .ok (.if_icmp .ge 23, 3) := by decide +kernel
theorem dX4_meanLength_26 : decode cX4_meanLength 26 = .ok (.iload_n 2, 1) := by decide +kernel
theorem dX4_meanLength_27 : decode cX4_meanLength 27 = .ok (.aload_n 0, 1) := by decide +kernel
theorem dX4_meanLength_28 : decode cX4_meanLength 28 = .ok (.getfield 10, 3) := by decide +kernel
theorem dX4_meanLength_31 : decode cX4_meanLength 31 = .ok (.getfield 54, 3) := by decide +kernel
theorem dX4_meanLength_34 : decode cX4_meanLength 34 = .ok (.iload_n 3, 1) := by decide +kernel
theorem dX4_meanLength_35 : decode cX4_meanLength 35 = .ok (.invokevirtual 132, 3) := by decide +kernel
theorem dX4_meanLength_38 : decode cX4_meanLength 38 = .ok (.iadd, 1) := by decide +kernel
theorem dX4_meanLength_39 : decode cX4_meanLength 39 = .ok (.istore_n 2, 1) := by decide +kernel
theorem dX4_meanLength_40 : decode cX4_meanLength 40 = .ok (.iinc 3 1, 3) := by decide +kernel
theorem dX4_meanLength_43 : decode cX4_meanLength 43 = .ok (.goto (-22), 3) := by decide +kernel
theorem dX4_meanLength_46 : decode cX4_meanLength 46 = .ok (.iload_n 2, 1) := by decide +kernel
theorem dX4_meanLength_47 : decode cX4_meanLength 47 = .ok (.i2d, 1) := by decide +kernel
theorem dX4_meanLength_48 : decode cX4_meanLength 48 = .ok (.iload_n 1, 1) := by decide +kernel
theorem dX4_meanLength_49 : decode cX4_meanLength 49 = .ok (.i2d, 1) := by decide +kernel
theorem dX4_meanLength_50 : decode cX4_meanLength 50 = .ok (.ddiv, 1) := by decide +kernel
theorem dX4_meanLength_51 : decode cX4_meanLength 51 = .ok (.dreturn, 1) := by decide +kernel
theorem dX4_requireCrossing_0 : decode cX4_requireCrossing 0 = .ok (.iload_n 1, 1) := by decide +kernel
theorem dX4_requireCrossing_1 : decode cX4_requireCrossing 1 = .ok (.ifCond .lt 14, 3) := by decide +kernel
theorem dX4_requireCrossing_4 : decode cX4_requireCrossing 4 = .ok (.iload_n 1, 1) := by decide +kernel
theorem dX4_requireCrossing_5 : decode cX4_requireCrossing 5 = .ok (.aload_n 0, 1) := by decide +kernel
theorem dX4_requireCrossing_6 : decode cX4_requireCrossing 6 = .ok (.getfield 10, 3) := by decide +kernel
theorem dX4_requireCrossing_9 : decode cX4_requireCrossing 9 = .ok (.getfield 26, 3) := by decide +kernel
theorem dX4_requireCrossing_12 : decode cX4_requireCrossing 12 = .ok (.if_icmp .lt 13, 3) := by decide +kernel
theorem dX4_requireCrossing_15 : decode cX4_requireCrossing 15 = .ok (.new 239, 3) := by decide +kernel
theorem dX4_requireCrossing_18 : decode cX4_requireCrossing 18 = .ok (.dup, 1) := by decide +kernel
theorem dX4_requireCrossing_19 : decode cX4_requireCrossing 19 = .ok (.ldc 241, 2) := by decide +kernel
theorem dX4_requireCrossing_21 : decode cX4_requireCrossing 21 = .ok (.invokespecial 243, 3) := by decide +kernel
theorem dX4_requireCrossing_24 : decode cX4_requireCrossing 24 = .ok (.athrow, 1) := by decide +kernel
theorem dX4_requireCrossing_25 : decode cX4_requireCrossing 25 = .ok (.return_, 1) := by decide +kernel
theorem dX4_requireRoad_0 : decode cX4_requireRoad 0 = .ok (.iload_n 1, 1) := by decide +kernel
theorem dX4_requireRoad_1 : decode cX4_requireRoad 1 = .ok (.ifCond .lt 17, 3) := by decide +kernel
theorem dX4_requireRoad_4 : decode cX4_requireRoad 4 = .ok (.iload_n 1, 1) := by decide +kernel
theorem dX4_requireRoad_5 : decode cX4_requireRoad 5 = .ok (.aload_n 0, 1) := by decide +kernel
theorem dX4_requireRoad_6 : decode cX4_requireRoad 6 = .ok (.getfield 10, 3) := by decide +kernel
theorem dX4_requireRoad_9 : decode cX4_requireRoad 9 = .ok (.getfield 54, 3) := by decide +kernel
theorem dX4_requireRoad_12 : decode cX4_requireRoad 12 = .ok (.getfield 58, 3) := by decide +kernel
theorem dX4_requireRoad_15 : decode cX4_requireRoad 15 = .ok (.if_icmp .lt 13, 3) := by decide +kernel
theorem dX4_requireRoad_18 : decode cX4_requireRoad 18 = .ok (.new 239, 3) := by decide +kernel
theorem dX4_requireRoad_21 : decode cX4_requireRoad 21 = .ok (.dup, 1) := by decide +kernel
theorem dX4_requireRoad_22 : decode cX4_requireRoad 22 = .ok (.ldc 244, 2) := by decide +kernel
theorem dX4_requireRoad_24 : decode cX4_requireRoad 24 = .ok (.invokespecial 243, 3) := by decide +kernel
theorem dX4_requireRoad_27 : decode cX4_requireRoad 27 = .ok (.athrow, 1) := by decide +kernel
theorem dX4_requireRoad_28 : decode cX4_requireRoad 28 = .ok (.return_, 1) := by decide +kernel
theorem dX4_requireTourist_0 : decode cX4_requireTourist 0 = .ok (.iload_n 1, 1) := by decide +kernel
theorem dX4_requireTourist_1 : decode cX4_requireTourist 1 = .ok (.ifCond .lt 17, 3) := by decide +kernel
theorem dX4_requireTourist_4 : decode cX4_requireTourist 4 = .ok (.iload_n 1, 1) := by decide +kernel
theorem dX4_requireTourist_5 : decode cX4_requireTourist 5 = .ok (.aload_n 0, 1) := by decide +kernel
theorem dX4_requireTourist_6 : decode cX4_requireTourist 6 = .ok (.getfield 10, 3) := by decide +kernel
theorem dX4_requireTourist_9 : decode cX4_requireTourist 9 = .ok (.getfield 69, 3) := by decide +kernel
theorem dX4_requireTourist_12 : decode cX4_requireTourist 12 = .ok (.getfield 73, 3) := by decide +kernel
theorem dX4_requireTourist_15 : decode cX4_requireTourist 15 = .ok (.if_icmp .lt 13, 3) := by decide +kernel
theorem dX4_requireTourist_18 : decode cX4_requireTourist 18 = .ok (.new 239, 3) := by decide +kernel
theorem dX4_requireTourist_21 : decode cX4_requireTourist 21 = .ok (.dup, 1) := by decide +kernel
theorem dX4_requireTourist_22 : decode cX4_requireTourist 22 = .ok (.ldc 246, 2) := by decide +kernel
theorem dX4_requireTourist_24 : decode cX4_requireTourist 24 = .ok (.invokespecial 243, 3) := by decide +kernel
theorem dX4_requireTourist_27 : decode cX4_requireTourist 27 = .ok (.athrow, 1) := by decide +kernel
theorem dX4_requireTourist_28 : decode cX4_requireTourist 28 = .ok (.return_, 1) := by decide +kernel
theorem dX4_requirePassing_0 : decode cX4_requirePassing 0 = .ok (.iload_n 1, 1) := by decide +kernel
theorem dX4_requirePassing_1 : decode cX4_requirePassing 1 = .ok (.iconst 1, 1) := by decide +kernel
theorem dX4_requirePassing_2 : decode cX4_requirePassing 2 = .ok (.if_icmp .lt 9, 3) := by decide +kernel
theorem dX4_requirePassing_5 : decode cX4_requirePassing 5 = .ok (.iload_n 1, 1) := by decide +kernel
theorem dX4_requirePassing_6 : decode cX4_requirePassing 6 = .ok (.bipush 50, 2) := by decide +kernel
theorem dX4_requirePassing_8 : decode cX4_requirePassing 8 = .ok (.if_icmp .le 13, 3) := by decide +kernel
theorem dX4_requirePassing_11 : decode cX4_requirePassing 11 = .ok (.new 45, 3) := by decide +kernel
theorem dX4_requirePassing_14 : decode cX4_requirePassing 14 = .ok (.dup, 1) := by decide +kernel
theorem dX4_requirePassing_15 : decode cX4_requirePassing 15 = .ok (.ldc 248, 2) := by decide +kernel
theorem dX4_requirePassing_17 : decode cX4_requirePassing 17 = .ok (.invokespecial 49, 3) := by decide +kernel
theorem dX4_requirePassing_20 : decode cX4_requirePassing 20 = .ok (.athrow, 1) := by decide +kernel
theorem dX4_requirePassing_21 : decode cX4_requirePassing 21 = .ok (.return_, 1) := by decide +kernel
theorem dX5_init_0 : decode cX5_init 0 = .ok (.aload_n 0, 1) := by decide +kernel
theorem dX5_init_1 : decode cX5_init 1 = .ok (.invokespecial 1, 3) := by decide +kernel
theorem dX5_init_4 : decode cX5_init 4 = .ok (.aload_n 0, 1) := by decide +kernel
theorem dX5_init_5 : decode cX5_init 5 = .ok (.iconst 0, 1) := by decide +kernel
theorem dX5_init_6 : decode cX5_init 6 = .ok (.anewarray 7, 3) := by decide +kernel
theorem dX5_init_9 : decode cX5_init 9 = .ok (.putfield 9, 3) := by decide +kernel
theorem dX5_init_12 : decode cX5_init 12 = .ok (.aload_n 0, 1) := by decide +kernel
theorem dX5_init_13 : decode cX5_init 13 = .ok (.iconst 0, 1) := by decide +kernel
theorem dX5_init_14 : decode cX5_init 14 = .ok (.anewarray 7, 3) := by decide +kernel
theorem dX5_init_17 : decode cX5_init 17 = .ok (.putfield 15, 3) := by decide +kernel
theorem dX5_init_20 : decode cX5_init 20 = .ok (.return_, 1) := by decide +kernel
theorem dX5_with_0 : decode cX5_with 0 = .ok (.aload_n 0, 1) := by decide +kernel
theorem dX5_with_1 : decode cX5_with 1 = .ok (.arraylength, 1) := by decide +kernel
theorem dX5_with_2 : decode cX5_with 2 = .ok (.iconst 1, 1) := by decide +kernel
theorem dX5_with_3 : decode cX5_with 3 = .ok (.iadd, 1) := by decide +kernel
theorem dX5_with_4 : decode cX5_with 4 = .ok (.anewarray 7, 3) := by decide +kernel
theorem dX5_with_7 : decode cX5_with 7 = .ok (.astore_n 2, 1) := by decide +kernel
theorem dX5_with_8 : decode cX5_with 8 = .ok (.iconst 0, 1) := by decide +kernel
theorem dX5_with_9 : decode cX5_with 9 = .ok (.istore_n 3, 1) := by decide +kernel
theorem dX5_with_10 : decode cX5_with 10 = .ok (.iload_n 3, 1) := by decide +kernel
theorem dX5_with_11 : decode cX5_with 11 = .ok (.aload_n 0, 1) := by decide +kernel
theorem dX5_with_12 : decode cX5_with 12 = .ok (.arraylength, 1) := by decide +kernel
theorem dX5_with_13 : decode cX5_with 13 = .ok (.if_icmp .ge 15, 3) := by decide +kernel
theorem dX5_with_16 : decode cX5_with 16 = .ok (.aload_n 2, 1) := by decide +kernel
theorem dX5_with_17 : decode cX5_with 17 = .ok (.iload_n 3, 1) := by decide +kernel
theorem dX5_with_18 : decode cX5_with 18 = .ok (.aload_n 0, 1) := by decide +kernel
theorem dX5_with_19 : decode cX5_with 19 = .ok (.iload_n 3, 1) := by decide +kernel
theorem dX5_with_20 : decode cX5_with 20 = .ok (.aaload, 1) := by decide +kernel
theorem dX5_with_21 : decode cX5_with 21 = .ok (.aastore, 1) := by decide +kernel
theorem dX5_with_22 : decode cX5_with 22 = .ok (.iinc 3 1, 3) := by decide +kernel
theorem dX5_with_25 : decode cX5_with 25 = .ok (.goto (-15), 3) := by decide +kernel
theorem dX5_with_28 : decode cX5_with 28 = .ok (.aload_n 2, 1) := by decide +kernel
theorem dX5_with_29 : decode cX5_with 29 = .ok (.aload_n 0, 1) := by decide +kernel
theorem dX5_with_30 : decode cX5_with 30 = .ok (.arraylength, 1) := by decide +kernel
theorem dX5_with_31 : decode cX5_with 31 = .ok (.aload_n 1, 1) := by decide +kernel
theorem dX5_with_32 : decode cX5_with 32 = .ok (.aastore, 1) := by decide +kernel
theorem dX5_with_33 : decode cX5_with 33 = .ok (.aload_n 2, 1) := by decide +kernel
theorem dX5_with_34 : decode cX5_with 34 = .ok (.areturn, 1) := by decide +kernel
theorem dX5_length_0 : decode cX5_length 0 = .ok (.aload_n 0, 1) := by decide +kernel
theorem dX5_length_1 : decode cX5_length 1 = .ok (.iconst 2, 1) := by decide +kernel
theorem dX5_length_2 : decode cX5_length 2 = .ok (.iaload, 1) := by decide +kernel
theorem dX5_length_3 : decode cX5_length 3 = .ok (.aload_n 0, 1) := by decide +kernel
theorem dX5_length_4 : decode cX5_length 4 = .ok (.bipush 6, 2) := by decide +kernel
theorem dX5_length_6 : decode cX5_length 6 = .ok (.iaload, 1) := by decide +kernel
theorem dX5_length_7 : decode cX5_length 7 = .ok (.iadd, 1) := by decide +kernel
theorem dX5_length_8 : decode cX5_length 8 = .ok (.ireturn, 1) := by decide +kernel
theorem dX5_distances_0 : decode cX5_distances 0 = .ok (.aload_n 0, 1) := by decide +kernel
theorem dX5_distances_1 : decode cX5_distances 1 = .ok (.getfield 18, 3) := by decide +kernel
theorem dX5_distances_4 : decode cX5_distances 4 = .ok (.newarray .int, 2) := by decide +kernel
theorem dX5_distances_6 : decode cX5_distances 6 = .ok (.astore_n 3, 1) := by decide +kernel
theorem dX5_distances_7 : decode cX5_distances 7 = .ok (.aload_n 0, 1) := by decide +kernel
theorem dX5_distances_8 : decode cX5_distances 8 = .ok (.getfield 18, 3) := by decide +kernel
theorem dX5_distances_11 : decode cX5_distances 11 = .ok (.newarray .boolean, 2) := by decide +kernel
theorem dX5_distances_13 : decode cX5_distances 13 = .ok (.astore 4, 2) := by decide +kernel
theorem dX5_distances_15 : decode cX5_distances 15 = .ok (.iconst 0, 1) := by decide +kernel
theorem dX5_distances_16 : decode cX5_distances 16 = .ok (.istore 5, 2) := by decide +kernel
theorem dX5_distances_18 : decode cX5_distances 18 = .ok (.iload 5, 2) := by decide +kernel
theorem dX5_distances_20 : decode cX5_distances 20 = .ok (.aload_n 0, 1) := by decide +kernel
theorem dX5_distances_21 : decode cX5_distances 21 = .ok (.getfield 18, 3) := by decide +kernel
theorem dX5_distances_24 : decode cX5_distances 24 = .ok (.if_icmp .ge 26, 3) := by decide +kernel
theorem dX5_distances_27 : decode cX5_distances 27 = .ok (.aload_n 3, 1) := by decide +kernel
theorem dX5_distances_28 : decode cX5_distances 28 = .ok (.iload 5, 2) := by decide +kernel
theorem dX5_distances_30 : decode cX5_distances 30 = .ok (.iload 5, 2) := by decide +kernel
theorem dX5_distances_32 : decode cX5_distances 32 = .ok (.iload_n 1, 1) := by decide +kernel
theorem dX5_distances_33 : decode cX5_distances 33 = .ok (.if_icmp .ne 7, 3) := by decide +kernel
theorem dX5_distances_36 : decode cX5_distances 36 = .ok (.iconst 0, 1) := by decide +kernel
