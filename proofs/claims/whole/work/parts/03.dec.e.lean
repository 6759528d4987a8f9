theorem dL_addCrossing_0 : decode cL_addCrossing 0 = .ok (.aload_n 1, 1) := by decide +kernel
theorem dL_addCrossing_1 : decode cL_addCrossing 1 = .ok (.iconst 0, 1) := by decide +kernel
theorem dL_addCrossing_2 : decode cL_addCrossing 2 = .ok (.aload_n 0, 1) := by decide +kernel
theorem dL_addCrossing_3 : decode cL_addCrossing 3 = .ok (.invokevirtual 7, 3) := by decide +kernel
theorem dL_addCrossing_6 : decode cL_addCrossing 6 = .ok (.i2l, 1) := by decide +kernel
theorem dL_addCrossing_7 : decode cL_addCrossing 7 = .ok (.lastore, 1) := by decide +kernel
theorem dL_addCrossing_8 : decode cL_addCrossing 8 = .ok (.goto 6, 3) := by decide +kernel
theorem dL_addCrossing_11 : decode cL_addCrossing 11 = .ok (.astore_n 2, 1) := by decide +kernel
theorem dL_addCrossing_12 : decode cL_addCrossing 12 = .ok (.iconst 1, 1) := by decide +kernel
theorem dL_addCrossing_13 : decode cL_addCrossing 13 = .ok (.ireturn, 1) := by decide +kernel
theorem dL_addCrossing_14 : decode cL_addCrossing 14 = .ok (.iconst 0, 1) := by decide +kernel
theorem dL_addCrossing_15 : decode cL_addCrossing 15 = .ok (.ireturn, 1) := by decide +kernel
theorem dL_addRoad_0 : decode cL_addRoad 0 = .ok (.aload 5, 2) := by decide +kernel
theorem dL_addRoad_2 : decode cL_addRoad 2 = .ok (.iconst 0, 1) := by decide +kernel
theorem dL_addRoad_3 : decode cL_addRoad 3 = .ok (.aload_n 0, 1) := by decide +kernel
theorem dL_addRoad_4 : decode cL_addRoad 4 = .ok (.iload_n 1, 1) := by decide +kernel
theorem dL_addRoad_5 : decode cL_addRoad 5 = .ok (.iload_n 2, 1) := by decide +kernel
theorem dL_addRoad_6 : decode cL_addRoad 6 = .ok (.iload_n 3, 1) := by decide +kernel
theorem dL_addRoad_7 : decode cL_addRoad 7 = .ok (.iload 4, 2) := by decide +kernel
theorem dL_addRoad_9 : decode cL_addRoad 9 = .ok (.invokevirtual 15, 3) := by decide +kernel
theorem dL_addRoad_12 : decode cL_addRoad 12 = .ok (.i2l, 1) := by decide +kernel
theorem dL_addRoad_13 : decode cL_addRoad 13 = .ok (.lastore, 1) := by decide +kernel
theorem dL_addRoad_14 : decode cL_addRoad 14 = .ok (.goto 15, 3) := by decide +kernel
theorem dL_addRoad_17 : decode cL_addRoad 17 = .ok (.astore 6, 2) := by decide +kernel
theorem dL_addRoad_19 : decode cL_addRoad 19 = .ok (.iconst 1, 1) := by decide +kernel
theorem dL_addRoad_20 : decode cL_addRoad 20 = .ok (.ireturn, 1) := by decide +kernel
theorem dL_addRoad_21 : decode cL_addRoad 21 = .ok (.astore 6, 2) := by decide +kernel
theorem dL_addRoad_23 : decode cL_addRoad 23 = .ok (.iconst 2, 1) := by decide +kernel
theorem dL_addRoad_24 : decode cL_addRoad 24 = .ok (.ireturn, 1) := by decide +kernel
theorem dL_addRoad_25 : decode cL_addRoad 25 = .ok (.astore 6, 2) := by decide +kernel
theorem dL_addRoad_27 : decode cL_addRoad 27 = .ok (.iconst 3, 1) := by decide +kernel
theorem dL_addRoad_28 : decode cL_addRoad 28 = .ok (.ireturn, 1) := by decide +kernel
theorem dL_addRoad_29 : decode cL_addRoad 29 = .ok (.iconst 0, 1) := by decide +kernel
theorem dL_addRoad_30 : decode cL_addRoad 30 = .ok (.ireturn, 1) := by decide +kernel
theorem dL_addTourist_0 : decode cL_addTourist 0 = .ok (.aload_n 3, 1) := by decide +kernel
theorem dL_addTourist_1 : decode cL_addTourist 1 = .ok (.iconst 0, 1) := by decide +kernel
theorem dL_addTourist_2 : decode cL_addTourist 2 = .ok (.aload_n 0, 1) := by decide +kernel
theorem dL_addTourist_3 : decode cL_addTourist 3 = .ok (.iload_n 1, 1) := by decide +kernel
theorem dL_addTourist_4 : decode cL_addTourist 4 = .ok (.iload_n 2, 1) := by decide +kernel
theorem dL_addTourist_5 : decode cL_addTourist 5 = .ok (.invokevirtual 23, 3) := by decide +kernel
theorem dL_addTourist_8 : decode cL_addTourist 8 = .ok (.i2l, 1) := by decide +kernel
theorem dL_addTourist_9 : decode cL_addTourist 9 = .ok (.lastore, 1) := by decide +kernel
theorem dL_addTourist_10 : decode cL_addTourist 10 = .ok (.goto 15, 3) := by decide +kernel
theorem dL_addTourist_13 : decode cL_addTourist 13 = .ok (.astore 4, 2) := by decide +kernel
theorem dL_addTourist_15 : decode cL_addTourist 15 = .ok (.iconst 1, 1) := by decide +kernel
theorem dL_addTourist_16 : decode cL_addTourist 16 = .ok (.ireturn, 1) := by decide +kernel
theorem dL_addTourist_17 : decode cL_addTourist 17 = .ok (.astore 4, 2) := by decide +kernel
theorem dL_addTourist_19 : decode cL_addTourist 19 = .ok (.iconst 2, 1) := by decide +kernel
theorem dL_addTourist_20 : decode cL_addTourist 20 = .ok (.ireturn, 1) := by decide +kernel
theorem dL_addTourist_21 : decode cL_addTourist 21 = .ok (.astore 4, 2) := by decide +kernel
theorem dL_addTourist_23 : decode cL_addTourist 23 = .ok (.iconst 3, 1) := by decide +kernel
theorem dL_addTourist_24 : decode cL_addTourist 24 = .ok (.ireturn, 1) := by decide +kernel
theorem dL_addTourist_25 : decode cL_addTourist 25 = .ok (.iconst 0, 1) := by decide +kernel
theorem dL_addTourist_26 : decode cL_addTourist 26 = .ok (.ireturn, 1) := by decide +kernel
theorem dL_mend_0 : decode cL_mend 0 = .ok (.aload_n 3, 1) := by decide +kernel
theorem dL_mend_1 : decode cL_mend 1 = .ok (.iconst 0, 1) := by decide +kernel
theorem dL_mend_2 : decode cL_mend 2 = .ok (.aload_n 0, 1) := by decide +kernel
theorem dL_mend_3 : decode cL_mend 3 = .ok (.iload_n 1, 1) := by decide +kernel
theorem dL_mend_4 : decode cL_mend 4 = .ok (.iload_n 2, 1) := by decide +kernel
theorem dL_mend_5 : decode cL_mend 5 = .ok (.invokevirtual 27, 3) := by decide +kernel
theorem dL_mend_8 : decode cL_mend 8 = .ok (.i2l, 1) := by decide +kernel
theorem dL_mend_9 : decode cL_mend 9 = .ok (.lastore, 1) := by decide +kernel
theorem dL_mend_10 : decode cL_mend 10 = .ok (.goto 15, 3) := by decide +kernel
theorem dL_mend_13 : decode cL_mend 13 = .ok (.astore 4, 2) := by decide +kernel
theorem dL_mend_15 : decode cL_mend 15 = .ok (.iconst 1, 1) := by decide +kernel
theorem dL_mend_16 : decode cL_mend 16 = .ok (.ireturn, 1) := by decide +kernel
theorem dL_mend_17 : decode cL_mend 17 = .ok (.astore 4, 2) := by decide +kernel
theorem dL_mend_19 : decode cL_mend 19 = .ok (.iconst 2, 1) := by decide +kernel
theorem dL_mend_20 : decode cL_mend 20 = .ok (.ireturn, 1) := by decide +kernel
theorem dL_mend_21 : decode cL_mend 21 = .ok (.astore 4, 2) := by decide +kernel
theorem dL_mend_23 : decode cL_mend 23 = .ok (.iconst 3, 1) := by decide +kernel
theorem dL_mend_24 : decode cL_mend 24 = .ok (.ireturn, 1) := by decide +kernel
theorem dL_mend_25 : decode cL_mend 25 = .ok (.iconst 0, 1) := by decide +kernel
theorem dL_mend_26 : decode cL_mend 26 = .ok (.ireturn, 1) := by decide +kernel
theorem dL_cutKnots_0 : decode cL_cutKnots 0 = .ok (.aload_n 2, 1) := by decide +kernel
theorem dL_cutKnots_1 : decode cL_cutKnots 1 = .ok (.iconst 0, 1) := by decide +kernel
theorem dL_cutKnots_2 : decode cL_cutKnots 2 = .ok (.aload_n 0, 1) := by decide +kernel
theorem dL_cutKnots_3 : decode cL_cutKnots 3 = .ok (.iload_n 1, 1) := by decide +kernel
theorem dL_cutKnots_4 : decode cL_cutKnots 4 = .ok (.invokevirtual 30, 3) := by decide +kernel
theorem dL_cutKnots_7 : decode cL_cutKnots 7 = .ok (.i2l, 1) := by decide +kernel
theorem dL_cutKnots_8 : decode cL_cutKnots 8 = .ok (.lastore, 1) := by decide +kernel
theorem dL_cutKnots_9 : decode cL_cutKnots 9 = .ok (.goto 9, 3) := by decide +kernel
theorem dL_cutKnots_12 : decode cL_cutKnots 12 = .ok (.astore_n 3, 1) := by decide +kernel
theorem dL_cutKnots_13 : decode cL_cutKnots 13 = .ok (.iconst 1, 1) := by decide +kernel
theorem dL_cutKnots_14 : decode cL_cutKnots 14 = .ok (.ireturn, 1) := by decide +kernel
theorem dL_cutKnots_15 : decode cL_cutKnots 15 = .ok (.astore_n 3, 1) := by decide +kernel
theorem dL_cutKnots_16 : decode cL_cutKnots 16 = .ok (.iconst 2, 1) := by decide +kernel
theorem dL_cutKnots_17 : decode cL_cutKnots 17 = .ok (.ireturn, 1) := by decide +kernel
theorem dL_cutKnots_18 : decode cL_cutKnots 18 = .ok (.iconst 0, 1) := by decide +kernel
theorem dL_cutKnots_19 : decode cL_cutKnots 19 = .ok (.ireturn, 1) := by decide +kernel
theorem dL_pass_0 : decode cL_pass 0 = .ok (.aload_n 2, 1) := by decide +kernel
theorem dL_pass_1 : decode cL_pass 1 = .ok (.iconst 0, 1) := by decide +kernel
theorem dL_pass_2 : decode cL_pass 2 = .ok (.aload_n 0, 1) := by decide +kernel
theorem dL_pass_3 : decode cL_pass 3 = .ok (.iload_n 1, 1) := by decide +kernel
theorem dL_pass_4 : decode cL_pass 4 = .ok (.invokevirtual 34, 3) := by decide +kernel
theorem dL_pass_7 : decode cL_pass 7 = .ok (.i2l, 1) := by decide +kernel
theorem dL_pass_8 : decode cL_pass 8 = .ok (.lastore, 1) := by decide +kernel
theorem dL_pass_9 : decode cL_pass 9 = .ok (.goto 6, 3) := by decide +kernel
theorem dL_pass_12 : decode cL_pass 12 = .ok (.astore_n 3, 1) := by decide +kernel
theorem dL_pass_13 : decode cL_pass 13 = .ok (.iconst 1, 1) := by decide +kernel
theorem dL_pass_14 : decode cL_pass 14 = .ok (.ireturn, 1) := by decide +kernel
theorem dL_pass_15 : decode cL_pass 15 = .ok (.iconst 0, 1) := by decide +kernel
theorem dL_pass_16 : decode cL_pass 16 = .ok (.ireturn, 1) := by decide +kernel
theorem dL_lengthOf_0 : decode cL_lengthOf 0 = .ok (.aload_n 2, 1) := by decide +kernel
theorem dL_lengthOf_1 : decode cL_lengthOf 1 = .ok (.iconst 0, 1) := by decide +kernel
theorem dL_lengthOf_2 : decode cL_lengthOf 2 = .ok (.aload_n 0, 1) := by decide +kernel
theorem dL_lengthOf_3 : decode cL_lengthOf 3 = .ok (.iload_n 1, 1) := by decide +kernel
theorem dL_lengthOf_4 : decode cL_lengthOf 4 = .ok (.invokevirtual 37, 3) := by decide +kernel
theorem dL_lengthOf_7 : decode cL_lengthOf 7 = .ok (.i2l, 1) := by decide +kernel
theorem dL_lengthOf_8 : decode cL_lengthOf 8 = .ok (.lastore, 1) := by decide +kernel
theorem dL_lengthOf_9 : decode cL_lengthOf 9 = .ok (.goto 6, 3) := by decide +kernel
theorem dL_lengthOf_12 : decode cL_lengthOf 12 = .ok (.astore_n 3, 1) := by decide +kernel
theorem dL_lengthOf_13 : decode cL_lengthOf 13 = .ok (.iconst 1, 1) := by decide +kernel
theorem dL_lengthOf_14 : decode cL_lengthOf 14 = .ok (.ireturn, 1) := by decide +kernel
theorem dL_lengthOf_15 : decode cL_lengthOf 15 = .ok (.iconst 0, 1) := by decide +kernel
theorem dL_lengthOf_16 : decode cL_lengthOf 16 = .ok (.ireturn, 1) := by decide +kernel
theorem dL_wearOf_0 : decode cL_wearOf 0 = .ok (.aload_n 2, 1) := by decide +kernel
theorem dL_wearOf_1 : decode cL_wearOf 1 = .ok (.iconst 0, 1) := by decide +kernel
theorem dL_wearOf_2 : decode cL_wearOf 2 = .ok (.aload_n 0, 1) := by decide +kernel
theorem dL_wearOf_3 : decode cL_wearOf 3 = .ok (.iload_n 1, 1) := by decide +kernel
theorem dL_wearOf_4 : decode cL_wearOf 4 = .ok (.invokevirtual 40, 3) := by decide +kernel
theorem dL_wearOf_7 : decode cL_wearOf 7 = .ok (.i2l, 1) := by decide +kernel
theorem dL_wearOf_8 : decode cL_wearOf 8 = .ok (.lastore, 1) := by decide +kernel
theorem dL_wearOf_9 : decode cL_wearOf 9 = .ok (.goto 6, 3) := by decide +kernel
theorem dL_wearOf_12 : decode cL_wearOf 12 = .ok (.astore_n 3, 1) := by decide +kernel
theorem dL_wearOf_13 : decode cL_wearOf 13 = .ok (.iconst 1, 1) := by decide +kernel
theorem dL_wearOf_14 : decode cL_wearOf 14 = .ok (.ireturn, 1) := by decide +kernel
theorem dL_wearOf_15 : decode cL_wearOf 15 = .ok (.iconst 0, 1) := by decide +kernel
theorem dL_wearOf_16 : decode cL_wearOf 16 = .ok (.ireturn, 1) := by decide +kernel
theorem dL_knotsOf_0 : decode cL_knotsOf 0 = .ok (.aload_n 2, 1) := by decide +kernel
theorem dL_knotsOf_1 : decode cL_knotsOf 1 = .ok (.iconst 0, 1) := by decide +kernel
theorem dL_knotsOf_2 : decode cL_knotsOf 2 = .ok (.aload_n 0, 1) := by decide +kernel
theorem dL_knotsOf_3 : decode cL_knotsOf 3 = .ok (.iload_n 1, 1) := by decide +kernel
theorem dL_knotsOf_4 : decode cL_knotsOf 4 = .ok (.invokevirtual 43, 3) := by decide +kernel
theorem dL_knotsOf_7 : decode cL_knotsOf 7 = .ok (.i2l, 1) := by decide +kernel
theorem dL_knotsOf_8 : decode cL_knotsOf 8 = .ok (.lastore, 1) := by decide +kernel
theorem dL_knotsOf_9 : decode cL_knotsOf 9 = .ok (.goto 6, 3) := by decide +kernel
theorem dL_knotsOf_12 : decode cL_knotsOf 12 = .ok (.astore_n 3, 1) := by decide +kernel
theorem dL_knotsOf_13 : decode cL_knotsOf 13 = .ok (.iconst 1, 1) := by decide +kernel
theorem dL_knotsOf_14 : decode cL_knotsOf 14 = .ok (.ireturn, 1) := by decide +kernel
theorem dL_knotsOf_15 : decode cL_knotsOf 15 = .ok (.iconst 0, 1) := by decide +kernel
theorem dL_knotsOf_16 : decode cL_knotsOf 16 = .ok (.ireturn, 1) := by decide +kernel
theorem dL_closedFor_0 : decode cL_closedFor 0 = .ok (.aload_n 2, 1) := by decide +kernel
theorem dL_closedFor_1 : decode cL_closedFor 1 = .ok (.iconst 0, 1) := by decide +kernel
theorem dL_closedFor_2 : decode cL_closedFor 2 = .ok (.aload_n 0, 1) := by decide +kernel
theorem dL_closedFor_3 : decode cL_closedFor 3 = .ok (.iload_n 1, 1) := by decide +kernel
theorem dL_closedFor_4 : decode cL_closedFor 4 = .ok (.invokevirtual 46, 3) := by decide +kernel
theorem dL_closedFor_7 : decode cL_closedFor 7 = .ok (.i2l, 1) := by decide +kernel
theorem dL_closedFor_8 : decode cL_closedFor 8 = .ok (.lastore, 1) := by decide +kernel
theorem dL_closedFor_9 : decode cL_closedFor 9 = .ok (.goto 6, 3) := by decide +kernel
theorem dL_closedFor_12 : decode cL_closedFor 12 = .ok (.astore_n 3, 1) := by decide +kernel
theorem dL_closedFor_13 : decode cL_closedFor 13 = .ok (.iconst 1, 1) := by decide +kernel
theorem dL_closedFor_14 : decode cL_closedFor 14 = .ok (.ireturn, 1) := by decide +kernel
theorem dL_closedFor_15 : decode cL_closedFor 15 = .ok (.iconst 0, 1) := by decide +kernel
theorem dL_closedFor_16 : decode cL_closedFor 16 = .ok (.ireturn, 1) := by decide +kernel
theorem dL_touristsOn_0 : decode cL_touristsOn 0 = .ok (.aload_n 2, 1) := by decide +kernel
theorem dL_touristsOn_1 : decode cL_touristsOn 1 = .ok (.iconst 0, 1) := by decide +kernel
theorem dL_touristsOn_2 : decode cL_touristsOn 2 = .ok (.aload_n 0, 1) := by decide +kernel
theorem dL_touristsOn_3 : decode cL_touristsOn 3 = .ok (.iload_n 1, 1) := by decide +kernel
theorem dL_touristsOn_4 : decode cL_touristsOn 4 = .ok (.invokevirtual 49, 3) := by decide +kernel
theorem dL_touristsOn_7 : decode cL_touristsOn 7 = .ok (.i2l, 1) := by decide +kernel
theorem dL_touristsOn_8 : decode cL_touristsOn 8 = .ok (.lastore, 1) := by decide +kernel
theorem dL_touristsOn_9 : decode cL_touristsOn 9 = .ok (.goto 6, 3) := by decide +kernel
theorem dL_touristsOn_12 : decode cL_touristsOn 12 = .ok (.astore_n 3, 1) := by decide +kernel
theorem dL_touristsOn_13 : decode cL_touristsOn 13 = .ok (.iconst 1, 1) := by decide +kernel
theorem dL_touristsOn_14 : decode cL_touristsOn 14 = .ok (.ireturn, 1) := by decide +kernel
theorem dL_touristsOn_15 : decode cL_touristsOn 15 = .ok (.iconst 0, 1) := by decide +kernel
theorem dL_touristsOn_16 : decode cL_touristsOn 16 = .ok (.ireturn, 1) := by decide +kernel
theorem dL_openDistance_0 : decode cL_openDistance 0 = .ok (.aload_n 3, 1) := by decide +kernel
theorem dL_openDistance_1 : decode cL_openDistance 1 = .ok (.iconst 0, 1) := by decide +kernel
theorem dL_openDistance_2 : decode cL_openDistance 2 = .ok (.aload_n 0, 1) := by decide +kernel
theorem dL_openDistance_3 : decode cL_openDistance 3 = .ok (.iload_n 1, 1) := by decide +kernel
theorem dL_openDistance_4 : decode cL_openDistance 4 = .ok (.iload_n 2, 1) := by decide +kernel
theorem dL_openDistance_5 : decode cL_openDistance 5 = .ok (.invokevirtual 52, 3) := by decide +kernel
theorem dL_openDistance_8 : decode cL_openDistance 8 = .ok (.i2l, 1) := by decide +kernel
theorem dL_openDistance_9 : decode cL_openDistance 9 = .ok (.lastore, 1) := by decide +kernel
theorem dL_openDistance_10 : decode cL_openDistance 10 = .ok (.goto 7, 3) := by decide +kernel
theorem dL_openDistance_13 : decode cL_openDistance 13 = .ok (.astore 4, 2) := by decide +kernel
theorem dL_openDistance_15 : decode cL_openDistance 15 = .ok (.iconst 1, 1) := by decide +kernel
theorem dL_openDistance_16 : decode cL_openDistance 16 = .ok (.ireturn, 1) := by decide +kernel
theorem dL_openDistance_17 : decode cL_openDistance 17 = .ok (.iconst 0, 1) := by decide +kernel
theorem dL_openDistance_18 : decode cL_openDistance 18 = .ok (.ireturn, 1) := by decide +kernel
theorem dL_distance_0 : decode cL_distance 0 = .ok (.aload_n 3, 1) := by decide +kernel
theorem dL_distance_1 : decode cL_distance 1 = .ok (.iconst 0, 1) := by decide +kernel
theorem dL_distance_2 : decode cL_distance 2 = .ok (.aload_n 0, 1) := by decide +kernel
theorem dL_distance_3 : decode cL_distance 3 = .ok (.iload_n 1, 1) := by decide +kernel
theorem dL_distance_4 : decode cL_distance 4 = .ok (.iload_n 2, 1) := by decide +kernel
theorem dL_distance_5 : decode cL_distance 5 = .ok (.invokevirtual 55, 3) := by decide +kernel
theorem dL_distance_8 : decode cL_distance 8 = .ok (.i2l, 1) := by decide +kernel
theorem dL_distance_9 : decode cL_distance 9 = .ok (.lastore, 1) := by decide +kernel
theorem dL_distance_10 : decode cL_distance 10 = .ok (.goto 7, 3) := by decide +kernel
theorem dL_distance_13 : decode cL_distance 13 = .ok (.astore 4, 2) := by decide +kernel
theorem dL_distance_15 : decode cL_distance 15 = .ok (.iconst 1, 1) := by decide +kernel
theorem dL_distance_16 : decode cL_distance 16 = .ok (.ireturn, 1) := by decide +kernel
theorem dL_distance_17 : decode cL_distance 17 = .ok (.iconst 0, 1) := by decide +kernel
theorem dL_distance_18 : decode cL_distance 18 = .ok (.ireturn, 1) := by decide +kernel
theorem dL_nextRoad_0 : decode cL_nextRoad 0 = .ok (.aload_n 3, 1) := by decide +kernel
theorem dL_nextRoad_1 : decode cL_nextRoad 1 = .ok (.iconst 0, 1) := by decide +kernel
theorem dL_nextRoad_2 : decode cL_nextRoad 2 = .ok (.aload_n 0, 1) := by decide +kernel
theorem dL_nextRoad_3 : decode cL_nextRoad 3 = .ok (.iload_n 1, 1) := by decide +kernel
theorem dL_nextRoad_4 : decode cL_nextRoad 4 = .ok (.iload_n 2, 1) := by decide +kernel
theorem dL_nextRoad_5 : decode cL_nextRoad 5 = .ok (.invokevirtual 58, 3) := by decide +kernel
theorem dL_nextRoad_8 : decode cL_nextRoad 8 = .ok (.i2l, 1) := by decide +kernel
theorem dL_nextRoad_9 : decode cL_nextRoad 9 = .ok (.lastore, 1) := by decide +kernel
theorem dL_nextRoad_10 : decode cL_nextRoad 10 = .ok (.goto 7, 3) := by decide +kernel
theorem dL_nextRoad_13 : decode cL_nextRoad 13 = .ok (.astore 4, 2) := by decide +kernel
theorem dL_nextRoad_15 : decode cL_nextRoad 15 = .ok (.iconst 1, 1) := by decide +kernel
theorem dL_nextRoad_16 : decode cL_nextRoad 16 = .ok (.ireturn, 1) := by decide +kernel
theorem dL_nextRoad_17 : decode cL_nextRoad 17 = .ok (.iconst 0, 1) := by decide +kernel
theorem dL_nextRoad_18 : decode cL_nextRoad 18 = .ok (.ireturn, 1) := by decide +kernel
theorem dL_placeOf_0 : decode cL_placeOf 0 = .ok (.aload_n 2, 1) := by decide +kernel
theorem dL_placeOf_1 : decode cL_placeOf 1 = .ok (.iconst 0, 1) := by decide +kernel
theorem dL_placeOf_2 : decode cL_placeOf 2 = .ok (.aload_n 0, 1) := by decide +kernel
theorem dL_placeOf_3 : decode cL_placeOf 3 = .ok (.iload_n 1, 1) := by decide +kernel
theorem dL_placeOf_4 : decode cL_placeOf 4 = .ok (.invokevirtual 61, 3) := by decide +kernel
theorem dL_placeOf_7 : decode cL_placeOf 7 = .ok (.i2l, 1) := by decide +kernel
theorem dL_placeOf_8 : decode cL_placeOf 8 = .ok (.lastore, 1) := by decide +kernel
theorem dL_placeOf_9 : decode cL_placeOf 9 = .ok (.goto 6, 3) := by decide +kernel
theorem dL_placeOf_12 : decode cL_placeOf 12 = .ok (.astore_n 3, 1) := by decide +kernel
theorem dL_placeOf_13 : decode cL_placeOf 13 = .ok (.iconst 1, 1) := by decide +kernel
theorem dL_placeOf_14 : decode cL_placeOf 14 = .ok (.ireturn, 1) := by decide +kernel
theorem dL_placeOf_15 : decode cL_placeOf 15 = .ok (.iconst 0, 1) := by decide +kernel
theorem dL_placeOf_16 : decode cL_placeOf 16 = .ok (.ireturn, 1) := by decide +kernel
theorem dL_roadOf_0 : decode cL_roadOf 0 = .ok (.aload_n 2, 1) := by decide +kernel
theorem dL_roadOf_1 : decode cL_roadOf 1 = .ok (.iconst 0, 1) := by decide +kernel
theorem dL_roadOf_2 : decode cL_roadOf 2 = .ok (.aload_n 0, 1) := by decide +kernel
theorem dL_roadOf_3 : decode cL_roadOf 3 = .ok (.iload_n 1, 1) := by decide +kernel
theorem dL_roadOf_4 : decode cL_roadOf 4 = .ok (.invokevirtual 64, 3) := by decide +kernel
theorem dL_roadOf_7 : decode cL_roadOf 7 = .ok (.i2l, 1) := by decide +kernel
theorem dL_roadOf_8 : decode cL_roadOf 8 = .ok (.lastore, 1) := by decide +kernel
theorem dL_roadOf_9 : decode cL_roadOf 9 = .ok (.goto 6, 3) := by decide +kernel
theorem dL_roadOf_12 : decode cL_roadOf 12 = .ok (.astore_n 3, 1) := by decide +kernel
theorem dL_roadOf_13 : decode cL_roadOf 13 = .ok (.iconst 1, 1) := by decide +kernel
theorem dL_roadOf_14 : decode cL_roadOf 14 = .ok (.ireturn, 1) := by decide +kernel
theorem dL_roadOf_15 : decode cL_roadOf 15 = .ok (.iconst 0, 1) := by decide +kernel
theorem dL_roadOf_16 : decode cL_roadOf 16 = .ok (.ireturn, 1) := by decide +kernel
theorem dL_dyeOf_0 : decode cL_dyeOf 0 = .ok (.aload_n 2, 1) := by decide +kernel
theorem dL_dyeOf_1 : decode cL_dyeOf 1 = .ok (.iconst 0, 1) := by decide +kernel
theorem dL_dyeOf_2 : decode cL_dyeOf 2 = .ok (.aload_n 0, 1) := by decide +kernel
theorem dL_dyeOf_3 : decode cL_dyeOf 3 = .ok (.iload_n 1, 1) := by decide +kernel
theorem dL_dyeOf_4 : decode cL_dyeOf 4 = .ok (.invokevirtual 67, 3) := by decide +kernel
theorem dL_dyeOf_7 : decode cL_dyeOf 7 = .ok (.i2l, 1) := by decide +kernel
theorem dL_dyeOf_8 : decode cL_dyeOf 8 = .ok (.lastore, 1) := by decide +kernel
theorem dL_dyeOf_9 : decode cL_dyeOf 9 = .ok (.goto 6, 3) := by decide +kernel
theorem dL_dyeOf_12 : decode cL_dyeOf 12 = .ok (.astore_n 3, 1) := by decide +kernel
theorem dL_dyeOf_13 : decode cL_dyeOf 13 = .ok (.iconst 1, 1) := by decide +kernel
theorem dL_dyeOf_14 : decode cL_dyeOf 14 = .ok (.ireturn, 1) := by decide +kernel
theorem dL_dyeOf_15 : decode cL_dyeOf 15 = .ok (.iconst 0, 1) := by decide +kernel
theorem dL_dyeOf_16 : decode cL_dyeOf 16 = .ok (.ireturn, 1) := by decide +kernel
theorem dL_frayOf_0 : decode cL_frayOf 0 = .ok (.aload_n 2, 1) := by decide +kernel
theorem dL_frayOf_1 : decode cL_frayOf 1 = .ok (.iconst 0, 1) := by decide +kernel
theorem dL_frayOf_2 : decode cL_frayOf 2 = .ok (.aload_n 0, 1) := by decide +kernel
theorem dL_frayOf_3 : decode cL_frayOf 3 = .ok (.iload_n 1, 1) := by decide +kernel
theorem dL_frayOf_4 : decode cL_frayOf 4 = .ok (.invokevirtual 70, 3) := by decide +kernel
theorem dL_frayOf_7 : decode cL_frayOf 7 = .ok (.i2l, 1) := by decide +kernel
theorem dL_frayOf_8 : decode cL_frayOf 8 = .ok (.lastore, 1) := by decide +kernel
theorem dL_frayOf_9 : decode cL_frayOf 9 = .ok (.goto 6, 3) := by decide +kernel
theorem dL_frayOf_12 : decode cL_frayOf 12 = .ok (.astore_n 3, 1) := by decide +kernel
theorem dL_frayOf_13 : decode cL_frayOf 13 = .ok (.iconst 1, 1) := by decide +kernel
theorem dL_frayOf_14 : decode cL_frayOf 14 = .ok (.ireturn, 1) := by decide +kernel
theorem dL_frayOf_15 : decode cL_frayOf 15 = .ok (.iconst 0, 1) := by decide +kernel
theorem dL_frayOf_16 : decode cL_frayOf 16 = .ok (.ireturn, 1) := by decide +kernel
theorem dL_hasArrived_0 : decode cL_hasArrived 0 = .ok (.aload_n 2, 1) := by decide +kernel
theorem dL_hasArrived_1 : decode cL_hasArrived 1 = .ok (.iconst 0, 1) := by decide +kernel
theorem dL_hasArrived_2 : decode cL_hasArrived 2 = .ok (.aload_n 0, 1) := by decide +kernel
theorem dL_hasArrived_3 : decode cL_hasArrived 3 = .ok (.iload_n 1, 1) := by decide +kernel
theorem dL_hasArrived_4 : decode cL_hasArrived 4 = .ok (.invokevirtual 73, 3) := by decide +kernel
theorem dL_hasArrived_7 : decode cL_hasArrived 7 = .ok (.ifCond .eq 7, 3) := by decide +kernel
theorem dL_hasArrived_10 : decode cL_hasArrived 10 = .ok (.lconst 1, 1) := by decide +kernel
theorem dL_hasArrived_11 : decode cL_hasArrived 11 = .ok (.goto 4, 3) := by decide +kernel
theorem dL_hasArrived_14 : decode cL_hasArrived 14 = .ok (.lconst 0, 1) := by decide +kernel
theorem dL_hasArrived_15 : decode cL_hasArrived 15 = .ok (.lastore, 1) := by decide +kernel
theorem dL_hasArrived_16 : decode cL_hasArrived 16 = .ok (.goto 6, 3) := by decide +kernel
theorem dL_hasArrived_19 : decode cL_hasArrived 19 = .ok (.astore_n 3, 1) := by decide +kernel
theorem dL_hasArrived_20 : decode cL_hasArrived 20 = .ok (.iconst 1, 1) := by decide +kernel
theorem dL_hasArrived_21 : decode cL_hasArrived 21 = .ok (.ireturn, 1) := by decide +kernel
theorem dL_hasArrived_22 : decode cL_hasArrived 22 = .ok (.iconst 0, 1) := by decide +kernel
theorem dL_hasArrived_23 : decode cL_hasArrived 23 = .ok (.ireturn, 1) := by decide +kernel
theorem dL_hoursUntilArrived_0 : decode cL_hoursUntilArrived 0 = .ok (.aload_n 2, 1) := by decide +kernel
theorem dL_hoursUntilArrived_1 : decode cL_hoursUntilArrived 1 = .ok (.iconst 0, 1) := by decide +kernel
theorem dL_hoursUntilArrived_2 : decode cL_hoursUntilArrived 2 = .ok (.aload_n 0, 1) := by decide +kernel
theorem dL_hoursUntilArrived_3 : decode cL_hoursUntilArrived 3 = .ok (.iload_n 1, 1) := by decide +kernel
theorem dL_hoursUntilArrived_4 : decode cL_hoursUntilArrived 4 = .ok (.invokevirtual 77, 3) := by decide +kernel
theorem dL_hoursUntilArrived_7 : decode cL_hoursUntilArrived 7 = .ok (.i2l, 1) := by decide +kernel
theorem dL_hoursUntilArrived_8 : decode cL_hoursUntilArrived 8 = .ok (.lastore, 1) := by decide +kernel
theorem dL_hoursUntilArrived_9 : decode cL_hoursUntilArrived 9 = .ok (.goto 6, 3) := by decide +kernel
theorem dL_hoursUntilArrived_12 : decode cL_hoursUntilArrived 12 = .ok (.astore_n 3, 1) := by decide +kernel
theorem dL_hoursUntilArrived_13 : decode cL_hoursUntilArrived 13 = .ok (.iconst 1, 1) := by decide +kernel
theorem dL_hoursUntilArrived_14 : decode cL_hoursUntilArrived 14 = .ok (.ireturn, 1) := by decide +kernel
theorem dL_hoursUntilArrived_15 : decode cL_hoursUntilArrived 15 = .ok (.iconst 0, 1) := by decide +kernel
theorem dL_hoursUntilArrived_16 : decode cL_hoursUntilArrived 16 = .ok (.ireturn, 1) := by decide +kernel
theorem dL_frayedIn_0 : decode cL_frayedIn 0 = .ok (.aload_n 2, 1) := by decide +kernel
theorem dL_frayedIn_1 : decode cL_frayedIn 1 = .ok (.iconst 0, 1) := by decide +kernel
theorem dL_frayedIn_2 : decode cL_frayedIn 2 = .ok (.aload_n 0, 1) := by decide +kernel
theorem dL_frayedIn_3 : decode cL_frayedIn 3 = .ok (.iload_n 1, 1) := by decide +kernel
theorem dL_frayedIn_4 : decode cL_frayedIn 4 = .ok (.invokevirtual 80, 3) := by decide +kernel
theorem dL_frayedIn_7 : decode cL_frayedIn 7 = .ok (.i2l, 1) := by decide +kernel
theorem dL_frayedIn_8 : decode cL_frayedIn 8 = .ok (.lastore, 1) := by decide +kernel
theorem dL_frayedIn_9 : decode cL_frayedIn 9 = .ok (.goto 6, 3) := by decide +kernel
theorem dL_frayedIn_12 : decode cL_frayedIn 12 = .ok (.astore_n 3, 1) := by decide +kernel
theorem dL_frayedIn_13 : decode cL_frayedIn 13 = .ok (.iconst 1, 1) := by decide +kernel
theorem dL_frayedIn_14 : decode cL_frayedIn 14 = .ok (.ireturn, 1) := by decide +kernel
theorem dL_frayedIn_15 : decode cL_frayedIn 15 = .ok (.iconst 0, 1) := by decide +kernel
theorem dL_frayedIn_16 : decode cL_frayedIn 16 = .ok (.ireturn, 1) := by decide +kernel
theorem dL_law_0 : decode cL_law 0 = .ok (.new 8, 3) := by decide +kernel
theorem dL_law_3 : decode cL_law 3 = .ok (.dup, 1) := by decide +kernel
theorem dL_law_4 : decode cL_law 4 = .ok (.invokespecial 83, 3) := by decide +kernel
theorem dL_law_7 : decode cL_law 7 = .ok (.astore_n 1, 1) := by decide +kernel
theorem dL_law_8 : decode cL_law 8 = .ok (.new 84, 3) := by decide +kernel
theorem dL_law_11 : decode cL_law 11 = .ok (.dup, 1) := by decide +kernel
theorem dL_law_12 : decode cL_law 12 = .ok (.invokespecial 86, 3) := by decide +kernel
theorem dL_law_15 : decode cL_law 15 = .ok (.astore_n 2, 1) := by decide +kernel
theorem dL_law_16 : decode cL_law 16 = .ok (.iconst 1, 1) := by decide +kernel
theorem dL_law_17 : decode cL_law 17 = .ok (.newarray .long, 2) := by decide +kernel
theorem dL_law_19 : decode cL_law 19 = .ok (.astore_n 3, 1) := by decide +kernel
theorem dL_law_20 : decode cL_law 20 = .ok (.iconst 0, 1) := by decide +kernel
theorem dL_law_21 : decode cL_law 21 = .ok (.istore 4, 2) := by decide +kernel
theorem dL_law_23 : decode cL_law 23 = .ok (.iload 4, 2) := by decide +kernel
theorem dL_law_25 : decode cL_law 25 = .ok (.aload_n 0, 1) := by decide +kernel
theorem dL_law_26 : decode cL_law 26 = .ok (.arraylength, 1) := by decide +kernel
theorem dL_law_27 : decode cL_law 27 = .ok (.iconst 5, 1) := by decide +kernel
theorem dL_law_28 : decode cL_law 28 = .ok (.isub, 1) := by decide +kernel
theorem dL_law_29 : decode cL_law 29 = .ok (.if_icmp .gt 1613, 3) := by decide +kernel
theorem dL_law_32 : decode cL_law 32 = .ok (.aload_n 0, 1) := by decide +kernel
theorem dL_law_33 : decode cL_law 33 = .ok (.iload 4, 2) := by decide +kernel
theorem dL_law_35 : decode cL_law 35 = .ok (.iaload, 1) := by decide +kernel
theorem dL_law_36 : decode cL_law 36 = .ok (.bipush 63, 2) := by decide +kernel
theorem dL_law_38 : decode cL_law 38 = .ok (.iand, 1) := by decide +kernel
theorem dL_law_39 : decode cL_law 39 = .ok (.tableswitch 1597 0 32 #[145, 189, 281, 349, 417, 473, 529, 542, 555, 568, 581, 594, 607, 620, 676, 732, 788, 844, 900, 913, 981, 1049, 1117, 1130, 1186, 1242, 1298, 1354, 1417, 1473, 1529, 1542, 1583], 145) := by decide +kernel
theorem dL_law_184 : decode cL_law 184 = .ok (.aload_n 1, 1) := by decide +kernel
theorem dL_law_185 : decode cL_law 185 = .ok (.aload_n 3, 1) := by decide +kernel
theorem dL_law_186 : decode cL_law 186 = .ok (.invokestatic 87, 3) := by decide +kernel
theorem dL_law_189 : decode cL_law 189 = .ok (.istore 5, 2) := by decide +kernel
theorem dL_law_191 : decode cL_law 191 = .ok (.aload_n 2, 1) := by decide +kernel
theorem dL_law_192 : decode cL_law 192 = .ok (.invokevirtual 92, 3) := by decide +kernel
theorem dL_law_195 : decode cL_law 195 = .ok (.istore 6, 2) := by decide +kernel
theorem dL_law_197 : decode cL_law 197 = .ok (.aload_n 2, 1) := by decide +kernel
theorem dL_law_198 : decode cL_law 198 = .ok (.invokevirtual 93, 3) := by decide +kernel
theorem dL_law_201 : decode cL_law 201 = .ok (.iload 5, 2) := by decide +kernel
theorem dL_law_203 : decode cL_law 203 = .ok (.if_icmp .eq 5, 3) := by decide +kernel
theorem dL_law_206 : decode cL_law 206 = .ok (.iconst 0, 1) := by decide +kernel
theorem dL_law_207 : decode cL_law 207 = .ok (.ireturn, 1) := by decide +kernel
theorem dL_law_208 : decode cL_law 208 = .ok (.iload 5, 2) := by decide +kernel
theorem dL_law_210 : decode cL_law 210 = .ok (.ifCond .ne 15, 3) := by decide +kernel
theorem dL_law_213 : decode cL_law 213 = .ok (.aload_n 3, 1) := by decide +kernel
theorem dL_law_214 : decode cL_law 214 = .ok (.iconst 0, 1) := by decide +kernel
theorem dL_law_215 : decode cL_law 215 = .ok (.laload, 1) := by decide +kernel
theorem dL_law_216 : decode cL_law 216 = .ok (.iload 6, 2) := by decide +kernel
theorem dL_law_218 : decode cL_law 218 = .ok (.i2l, 1) := by decide +kernel
theorem dL_law_219 : decode cL_law 219 = .ok (.lcmp, 1) := by decide +kernel
theorem dL_law_220 : decode cL_law 220 = .ok (.ifCond .eq 5, 3) := by decide +kernel
theorem dL_law_223 : decode cL_law 223 = .ok (.iconst 0, 1) := by decide +kernel
theorem dL_law_224 : decode cL_law 224 = .ok (.ireturn, 1) := by decide +kernel
theorem dL_law_225 : decode cL_law 225 = .ok (.goto 1411, 3) := by decide +kernel
theorem dL_law_228 : decode cL_law 228 = .ok (.aload_n 1, 1) := by decide +kernel
theorem dL_law_229 : decode cL_law 229 = .ok (.aload_n 0, 1) := by decide +kernel
theorem dL_law_230 : decode cL_law 230 = .ok (.iload 4, 2) := by decide +kernel
theorem dL_law_232 : decode cL_law 232 = .ok (.iconst 1, 1) := by decide +kernel
theorem dL_law_233 : decode cL_law 233 = .ok (.iadd, 1) := by decide +kernel
theorem dL_law_234 : decode cL_law 234 = .ok (.iaload, 1) := by decide +kernel
theorem dL_law_235 : decode cL_law 235 = .ok (.aload_n 0, 1) := by decide +kernel
theorem dL_law_236 : decode cL_law 236 = .ok (.iload 4, 2) := by decide +kernel
theorem dL_law_238 : decode cL_law 238 = .ok (.iconst 2, 1) := by decide +kernel
theorem dL_law_239 : decode cL_law 239 = .ok (.iadd, 1) := by decide +kernel
theorem dL_law_240 : decode cL_law 240 = .ok (.iaload, 1) := by decide +kernel
theorem dL_law_241 : decode cL_law 241 = .ok (.aload_n 0, 1) := by decide +kernel
theorem dL_law_242 : decode cL_law 242 = .ok (.iload 4, 2) := by decide +kernel
theorem dL_law_244 : decode cL_law 244 = .ok (.iconst 3, 1) := by decide +kernel
theorem dL_law_245 : decode cL_law 245 = .ok (.iadd, 1) := by decide +kernel
theorem dL_law_246 : decode cL_law 246 = .ok (.iaload, 1) := by decide +kernel
theorem dL_law_247 : decode cL_law 247 = .ok (.aload_n 0, 1) := by decide +kernel
theorem dL_law_248 : decode cL_law 248 = .ok (.iload 4, 2) := by decide +kernel
theorem dL_law_250 : decode cL_law 250 = .ok (.iconst 4, 1) := by decide +kernel
theorem dL_law_251 : decode cL_law 251 = .ok (.iadd, 1) := by decide +kernel
theorem dL_law_252 : decode cL_law 252 = .ok (.iaload, 1) := by decide +kernel
theorem dL_law_253 : decode cL_law 253 = .ok (.aload_n 3, 1) := by decide +kernel
theorem dL_law_254 : decode cL_law 254 = .ok (.invokestatic 96, 3) := by decide +kernel
theorem dL_law_257 : decode cL_law 257 = .ok (.istore 5, 2) := by decide +kernel
theorem dL_law_259 : decode cL_law 259 = .ok (.aload_n 2, 1) := by decide +kernel
theorem dL_law_260 : decode cL_law 260 = .ok (.aload_n 0, 1) := by decide +kernel
theorem dL_law_261 : decode cL_law 261 = .ok (.iload 4, 2) := by decide +kernel
theorem dL_law_263 : decode cL_law 263 = .ok (.iconst 1, 1) := by decide +kernel
theorem dL_law_264 : decode cL_law 264 = .ok (.iadd, 1) := by decide +kernel
theorem dL_law_265 : decode cL_law 265 = .ok (.iaload, 1) := by decide +kernel
theorem dL_law_266 : decode cL_law 266 = .ok (.aload_n 0, 1) := by decide +kernel
theorem dL_law_267 : decode cL_law 267 = .ok (.iload 4, 2) := by decide +kernel
theorem dL_law_269 : decode cL_law 269 = .ok (.iconst 2, 1) := by decide +kernel
theorem dL_law_270 : decode cL_law 270 = .ok (.iadd, 1) := by decide +kernel
theorem dL_law_271 : decode cL_law 271 = .ok (.iaload, 1) := by decide +kernel
theorem dL_law_272 : decode cL_law 272 = .ok (.aload_n 0, 1) := by decide +kernel
theorem dL_law_273 : decode cL_law 273 = .ok (.iload 4, 2) := by decide +kernel
theorem dL_law_275 : decode cL_law 275 = .ok (.iconst 3, 1) := by decide +kernel
theorem dL_law_276 : decode cL_law 276 = .ok (.iadd, 1) := by decide +kernel
theorem dL_law_277 : decode cL_law 277 = .ok (.iaload, 1) := by decide +kernel
theorem dL_law_278 : decode cL_law 278 = .ok (.aload_n 0, 1) := by decide +kernel
theorem dL_law_279 : decode cL_law 279 = .ok (.iload 4, 2) := by decide +kernel
theorem dL_law_281 : decode cL_law 281 = .ok (.iconst 4, 1) := by decide +kernel
theorem dL_law_282 : decode cL_law 282 = .ok (.iadd, 1) := by decide +kernel
theorem dL_law_283 : decode cL_law 283 = .ok (.iaload, 1) := by decide +kernel
theorem dL_law_284 : decode cL_law 284 = .ok (.invokevirtual 99, 3) := by decide +kernel
theorem dL_law_287 : decode cL_law 287 = .ok (.istore 6, 2) := by decide +kernel
theorem dL_law_289 : decode cL_law 289 = .ok (.aload_n 2, 1) := by decide +kernel
theorem dL_law_290 : decode cL_law 290 = .ok (.invokevirtual 93, 3) := by decide +kernel
theorem dL_law_293 : decode cL_law 293 = .ok (.iload 5, 2) := by decide +kernel
theorem dL_law_295 : decode cL_law 295 = .ok (.if_icmp .eq 5, 3) := by decide +kernel
theorem dL_law_298 : decode cL_law 298 = .ok (.iconst 0, 1) := by decide +kernel
theorem dL_law_299 : decode cL_law 299 = .ok (.ireturn, 1) := by decide +kernel
theorem dL_law_300 : decode cL_law 300 = .ok (.iload 5, 2) := by decide +kernel
theorem dL_law_302 : decode cL_law 302 = .ok (.ifCond .ne 15, 3) := by decide +kernel
theorem dL_law_305 : decode cL_law 305 = .ok (.aload_n 3, 1) := by decide +kernel
theorem dL_law_306 : decode cL_law 306 = .ok (.iconst 0, 1) := by decide +kernel
theorem dL_law_307 : decode cL_law 307 = .ok (.laload, 1) := by decide +kernel
theorem dL_law_308 : decode cL_law 308 = .ok (.iload 6, 2) := by decide +kernel
theorem dL_law_310 : decode cL_law 310 = .ok (.i2l, 1) := by decide +kernel
theorem dL_law_311 : decode cL_law 311 = .ok (.lcmp, 1) := by decide +kernel
theorem dL_law_312 : decode cL_law 312 = .ok (.ifCond .eq 5, 3) := by decide +kernel
theorem dL_law_315 : decode cL_law 315 = .ok (.iconst 0, 1) := by decide +kernel
theorem dL_law_316 : decode cL_law 316 = .ok (.ireturn, 1) := by decide +kernel
theorem dL_law_317 : decode cL_law 317 = .ok (.goto 1319, 3) := by decide +kernel
theorem dL_law_320 : decode cL_law 320 = .ok (.aload_n 1, 1) := by decide +kernel
theorem dL_law_321 : decode cL_law 321 = .ok (.aload_n 0, 1) := by decide +kernel
theorem dL_law_322 : decode cL_law 322 = .ok (.iload 4, 2) := by decide +kernel
theorem dL_law_324 : decode cL_law 324 = .ok (.iconst 1, 1) := by decide +kernel
theorem dL_law_325 : decode cL_law 325 = .ok (.iadd, 1) := by decide +kernel
theorem dL_law_326 : decode cL_law 326 = .ok (.iaload, 1) := by decide +kernel
theorem dL_law_327 : decode cL_law 327 = .ok (.aload_n 0, 1) := by decide +kernel
theorem dL_law_328 : decode cL_law 328 = .ok (.iload 4, 2) := by decide +kernel
theorem dL_law_330 : decode cL_law 330 = .ok (.iconst 2, 1) := by decide +kernel
theorem dL_law_331 : decode cL_law 331 = .ok (.iadd, 1) := by decide +kernel
theorem dL_law_332 : decode cL_law 332 = .ok (.iaload, 1) := by decide +kernel
theorem dL_law_333 : decode cL_law 333 = .ok (.aload_n 3, 1) := by decide +kernel
theorem dL_law_334 : decode cL_law 334 = .ok (.invokestatic 100, 3) := by decide +kernel
theorem dL_law_337 : decode cL_law 337 = .ok (.istore 5, 2) := by decide +kernel
theorem dL_law_339 : decode cL_law 339 = .ok (.aload_n 2, 1) := by decide +kernel
theorem dL_law_340 : decode cL_law 340 = .ok (.aload_n 0, 1) := by decide +kernel
theorem dL_law_341 : decode cL_law 341 = .ok (.iload 4, 2) := by decide +kernel
theorem dL_law_343 : decode cL_law 343 = .ok (.iconst 1, 1) := by decide +kernel
theorem dL_law_344 : decode cL_law 344 = .ok (.iadd, 1) := by decide +kernel
theorem dL_law_345 : decode cL_law 345 = .ok (.iaload, 1) := by decide +kernel
theorem dL_law_346 : decode cL_law 346 = .ok (.aload_n 0, 1) := by decide +kernel
theorem dL_law_347 : decode cL_law 347 = .ok (.iload 4, 2) := by decide +kernel
theorem dL_law_349 : decode cL_law 349 = .ok (.iconst 2, 1) := by decide +kernel
theorem dL_law_350 : decode cL_law 350 = .ok (.iadd, 1) := by decide +kernel
theorem dL_law_351 : decode cL_law 351 = .ok (.iaload, 1) := by decide +kernel
theorem dL_law_352 : decode cL_law 352 = .ok (.invokevirtual 103, 3) := by decide +kernel
theorem dL_law_355 : decode cL_law 355 = .ok (.istore 6, 2) := by decide +kernel
theorem dL_law_357 : decode cL_law 357 = .ok (.aload_n 2, 1) := by decide +kernel
theorem dL_law_358 : decode cL_law 358 = .ok (.invokevirtual 93, 3) := by decide +kernel
theorem dL_law_361 : decode cL_law 361 = .ok (.iload 5, 2) := by decide +kernel
theorem dL_law_363 : decode cL_law 363 = .ok (.if_icmp .eq 5, 3) := by decide +kernel
theorem dL_law_366 : decode cL_law 366 = .ok (.iconst 0, 1) := by decide +kernel
theorem dL_law_367 : decode cL_law 367 = .ok (.ireturn, 1) := by decide +kernel
theorem dL_law_368 : decode cL_law 368 = .ok (.iload 5, 2) := by decide +kernel
theorem dL_law_370 : decode cL_law 370 = .ok (.ifCond .ne 15, 3) := by decide +kernel
theorem dL_law_373 : decode cL_law 373 = .ok (.aload_n 3, 1) := by decide +kernel
theorem dL_law_374 : decode cL_law 374 = .ok (.iconst 0, 1) := by decide +kernel
theorem dL_law_375 : decode cL_law 375 = .ok (.laload, 1) := by decide +kernel
theorem dL_law_376 : decode cL_law 376 = .ok (.iload 6, 2) := by decide +kernel
theorem dL_law_378 : decode cL_law 378 = .ok (.i2l, 1) := by decide +kernel
theorem dL_law_379 : decode cL_law 379 = .ok (.lcmp, 1) := by decide +kernel
theorem dL_law_380 : decode cL_law 380 = .ok (.ifCond .eq 5, 3) := by decide +kernel
theorem dL_law_383 : decode cL_law 383 = .ok (.iconst 0, 1) := by decide +kernel
theorem dL_law_384 : decode cL_law 384 = .ok (.ireturn, 1) := by decide +kernel
theorem dL_law_385 : decode cL_law 385 = .ok (.goto 1251, 3) := by decide +kernel
theorem dL_law_388 : decode cL_law 388 = .ok (.aload_n 1, 1) := by decide +kernel
theorem dL_law_389 : decode cL_law 389 = .ok (.aload_n 0, 1) := by decide +kernel
theorem dL_law_390 : decode cL_law 390 = .ok (.iload 4, 2) := by decide +kernel
theorem dL_law_392 : decode cL_law 392 = .ok (.iconst 1, 1) := by decide +kernel
theorem dL_law_393 : decode cL_law 393 = .ok (.iadd, 1) := by decide +kernel
theorem dL_law_394 : decode cL_law 394 = .ok (.iaload, 1) := by decide +kernel
theorem dL_law_395 : decode cL_law 395 = .ok (.aload_n 0, 1) := by decide +kernel
theorem dL_law_396 : decode cL_law 396 = .ok (.iload 4, 2) := by decide +kernel
theorem dL_law_398 : decode cL_law 398 = .ok (.iconst 2, 1) := by decide +kernel
theorem dL_law_399 : decode cL_law 399 = .ok (.iadd, 1) := by decide +kernel
theorem dL_law_400 : decode cL_law 400 = .ok (.iaload, 1) := by decide +kernel
theorem dL_law_401 : decode cL_law 401 = .ok (.aload_n 3, 1) := by decide +kernel
theorem dL_law_402 : decode cL_law 402 = .ok (.invokestatic 104, 3) := by decide +kernel
theorem dL_law_405 : decode cL_law 405 = .ok (.istore 5, 2) := by decide +kernel
theorem dL_law_407 : decode cL_law 407 = .ok (.aload_n 2, 1) := by decide +kernel
theorem dL_law_408 : decode cL_law 408 = .ok (.aload_n 0, 1) := by decide +kernel
theorem dL_law_409 : decode cL_law 409 = .ok (.iload 4, 2) := by decide +kernel
theorem dL_law_411 : decode cL_law 411 = .ok (.iconst 1, 1) := by decide +kernel
theorem dL_law_412 : decode cL_law 412 = .ok (.iadd, 1) := by decide +kernel
theorem dL_law_413 : decode cL_law 413 = .ok (.iaload, 1) := by decide +kernel
theorem dL_law_414 : decode cL_law 414 = .ok (.aload_n 0, 1) := by decide +kernel
theorem dL_law_415 : decode cL_law 415 = .ok (.iload 4, 2) := by decide +kernel
theorem dL_law_417 : decode cL_law 417 = .ok (.iconst 2, 1) := by decide +kernel
theorem dL_law_418 : decode cL_law 418 = .ok (.iadd, 1) := by decide +kernel
theorem dL_law_419 : decode cL_law 419 = .ok (.iaload, 1) := by decide +kernel
theorem dL_law_420 : decode cL_law 420 = .ok (.invokevirtual 106, 3) := by decide +kernel
theorem dL_law_423 : decode cL_law 423 = .ok (.istore 6, 2) := by decide +kernel
theorem dL_law_425 : decode cL_law 425 = .ok (.aload_n 2, 1) := by decide +kernel
theorem dL_law_426 : decode cL_law 426 = .ok (.invokevirtual 93, 3) := by decide +kernel
theorem dL_law_429 : decode cL_law 429 = .ok (.iload 5, 2) := by decide +kernel
theorem dL_law_431 : decode cL_law 431 = .ok (.if_icmp .eq 5, 3) := by decide +kernel
theorem dL_law_434 : decode cL_law 434 = .ok (.iconst 0, 1) := by decide +kernel
theorem dL_law_435 : decode cL_law 435 = .ok (.ireturn, 1) := by decide +kernel
theorem dL_law_436 : decode cL_law 436 = .ok (.iload 5, 2) := by decide +kernel
theorem dL_law_438 : decode cL_law 438 = .ok (.ifCond .ne 15, 3) := by decide +kernel
theorem dL_law_441 : decode cL_law 441 = .ok (.aload_n 3, 1) := by decide +kernel
theorem dL_law_442 : decode cL_law 442 = .ok (.iconst 0, 1) := by decide +kernel
theorem dL_law_443 : decode cL_law 443 = .ok (.laload, 1) := by decide +kernel
theorem dL_law_444 : decode cL_law 444 = .ok (.iload 6, 2) := by decide +kernel
theorem dL_law_446 : decode cL_law 446 = .ok (.i2l, 1) := by decide +kernel
