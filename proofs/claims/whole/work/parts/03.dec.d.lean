theorem dX5_came_1 : decode cX5_came 1 = .ok (.istore_n 1, 1) := by decide +kernel
theorem dX5_came_2 : decode cX5_came 2 = .ok (.iconst 0, 1) := by decide +kernel
theorem dX5_came_3 : decode cX5_came 3 = .ok (.istore_n 2, 1) := by decide +kernel
theorem dX5_came_4 : decode cX5_came 4 = .ok (.iload_n 2, 1) := by decide +kernel
theorem dX5_came_5 : decode cX5_came 5 = .ok (.aload_n 0, 1) := by decide +kernel
theorem dX5_came_6 : decode cX5_came 6 = .ok (.getfield 54, 3) := by decide +kernel
theorem dX5_came_9 : decode cX5_came 9 = .ok (.if_icmp .ge 27, 3) := by decide +kernel
theorem dX5_came_12 : decode cX5_came 12 = .ok (.iload_n 1, 1) := by decide +kernel
theorem dX5_came_13 : decode cX5_came 13 = .ok (.aload_n 0, 1) := by decide +kernel
theorem dX5_came_14 : decode cX5_came 14 = .ok (.iload_n 2, 1) := by decide +kernel
theorem dX5_came_15 : decode cX5_came 15 = .ok (.iconst 4, 1) := by decide +kernel
theorem dX5_came_16 : decode cX5_came 16 = .ok (.invokevirtual 67, 3) := by decide +kernel
theorem dX5_came_19 : decode cX5_came 19 = .ok (.iconst (-1), 1) := by decide +kernel
theorem dX5_came_20 : decode cX5_came 20 = .ok (.if_icmp .eq 7, 3) := by decide +kernel
theorem dX5_came_23 : decode cX5_came 23 = .ok (.iconst 1, 1) := by decide +kernel
theorem dX5_came_24 : decode cX5_came 24 = .ok (.goto 4, 3) := by decide +kernel
theorem dX5_came_27 : decode cX5_came 27 = .ok (.iconst 0, 1) := by decide +kernel
theorem dX5_came_28 : decode cX5_came 28 = .ok (.iadd, 1) := by decide +kernel
theorem dX5_came_29 : decode cX5_came 29 = .ok (.istore_n 1, 1) := by decide +kernel
theorem dX5_came_30 : decode cX5_came 30 = .ok (.iinc 2 1, 3) := by decide +kernel
theorem dX5_came_33 : decode cX5_came 33 = .ok (.goto (-29), 3) := by decide +kernel
theorem dX5_came_36 : decode cX5_came 36 = .ok (.iload_n 1, 1) := by decide +kernel
theorem dX5_came_37 : decode cX5_came 37 = .ok (.ireturn, 1) := by decide +kernel
theorem dX5_pass_0 : decode cX5_pass 0 = .ok (.aload_n 0, 1) := by decide +kernel
theorem dX5_pass_1 : decode cX5_pass 1 = .ok (.iconst 0, 1) := by decide +kernel
theorem dX5_pass_2 : decode cX5_pass 2 = .ok (.putfield 40, 3) := by decide +kernel
theorem dX5_pass_5 : decode cX5_pass 5 = .ok (.iload_n 1, 1) := by decide +kernel
theorem dX5_pass_6 : decode cX5_pass 6 = .ok (.iconst 1, 1) := by decide +kernel
theorem dX5_pass_7 : decode cX5_pass 7 = .ok (.bipush 50, 2) := by decide +kernel
theorem dX5_pass_9 : decode cX5_pass 9 = .ok (.invokestatic 47, 3) := by decide +kernel
theorem dX5_pass_12 : decode cX5_pass 12 = .ok (.ifCond .ne 9, 3) := by decide +kernel
theorem dX5_pass_15 : decode cX5_pass 15 = .ok (.aload_n 0, 1) := by decide +kernel
theorem dX5_pass_16 : decode cX5_pass 16 = .ok (.iconst 1, 1) := by decide +kernel
theorem dX5_pass_17 : decode cX5_pass 17 = .ok (.invokevirtual 116, 3) := by decide +kernel
theorem dX5_pass_20 : decode cX5_pass 20 = .ok (.ireturn, 1) := by decide +kernel
theorem dX5_pass_21 : decode cX5_pass 21 = .ok (.aload_n 0, 1) := by decide +kernel
theorem dX5_pass_22 : decode cX5_pass 22 = .ok (.invokevirtual 129, 3) := by decide +kernel
theorem dX5_pass_25 : decode cX5_pass 25 = .ok (.istore_n 2, 1) := by decide +kernel
theorem dX5_pass_26 : decode cX5_pass 26 = .ok (.aload_n 0, 1) := by decide +kernel
theorem dX5_pass_27 : decode cX5_pass 27 = .ok (.iload_n 1, 1) := by decide +kernel
theorem dX5_pass_28 : decode cX5_pass 28 = .ok (.invokevirtual 133, 3) := by decide +kernel
theorem dX5_pass_31 : decode cX5_pass 31 = .ok (.aload_n 0, 1) := by decide +kernel
theorem dX5_pass_32 : decode cX5_pass 32 = .ok (.invokevirtual 129, 3) := by decide +kernel
theorem dX5_pass_35 : decode cX5_pass 35 = .ok (.iload_n 2, 1) := by decide +kernel
theorem dX5_pass_36 : decode cX5_pass 36 = .ok (.isub, 1) := by decide +kernel
theorem dX5_pass_37 : decode cX5_pass 37 = .ok (.ireturn, 1) := by decide +kernel
theorem dX5_hour_0 : decode cX5_hour 0 = .ok (.aload_n 0, 1) := by decide +kernel
theorem dX5_hour_1 : decode cX5_hour 1 = .ok (.aload_n 0, 1) := by decide +kernel
theorem dX5_hour_2 : decode cX5_hour 2 = .ok (.getfield 31, 3) := by decide +kernel
theorem dX5_hour_5 : decode cX5_hour 5 = .ok (.iconst 0, 1) := by decide +kernel
theorem dX5_hour_6 : decode cX5_hour 6 = .ok (.iaload, 1) := by decide +kernel
theorem dX5_hour_7 : decode cX5_hour 7 = .ok (.invokevirtual 136, 3) := by decide +kernel
theorem dX5_hour_10 : decode cX5_hour 10 = .ok (.ireturn, 1) := by decide +kernel
theorem dX5_crossings_0 : decode cX5_crossings 0 = .ok (.aload_n 0, 1) := by decide +kernel
theorem dX5_crossings_1 : decode cX5_crossings 1 = .ok (.aload_n 0, 1) := by decide +kernel
theorem dX5_crossings_2 : decode cX5_crossings 2 = .ok (.getfield 44, 3) := by decide +kernel
theorem dX5_crossings_5 : decode cX5_crossings 5 = .ok (.invokevirtual 136, 3) := by decide +kernel
theorem dX5_crossings_8 : decode cX5_crossings 8 = .ok (.ireturn, 1) := by decide +kernel
theorem dX5_roads_0 : decode cX5_roads 0 = .ok (.aload_n 0, 1) := by decide +kernel
theorem dX5_roads_1 : decode cX5_roads 1 = .ok (.aload_n 0, 1) := by decide +kernel
theorem dX5_roads_2 : decode cX5_roads 2 = .ok (.getfield 51, 3) := by decide +kernel
theorem dX5_roads_5 : decode cX5_roads 5 = .ok (.invokevirtual 136, 3) := by decide +kernel
theorem dX5_roads_8 : decode cX5_roads 8 = .ok (.ireturn, 1) := by decide +kernel
theorem dX5_tourists_0 : decode cX5_tourists 0 = .ok (.aload_n 0, 1) := by decide +kernel
theorem dX5_tourists_1 : decode cX5_tourists 1 = .ok (.aload_n 0, 1) := by decide +kernel
theorem dX5_tourists_2 : decode cX5_tourists 2 = .ok (.getfield 54, 3) := by decide +kernel
theorem dX5_tourists_5 : decode cX5_tourists 5 = .ok (.invokevirtual 136, 3) := by decide +kernel
theorem dX5_tourists_8 : decode cX5_tourists 8 = .ok (.ireturn, 1) := by decide +kernel
theorem dX5_arrived_0 : decode cX5_arrived 0 = .ok (.aload_n 0, 1) := by decide +kernel
theorem dX5_arrived_1 : decode cX5_arrived 1 = .ok (.aload_n 0, 1) := by decide +kernel
theorem dX5_arrived_2 : decode cX5_arrived 2 = .ok (.invokevirtual 129, 3) := by decide +kernel
theorem dX5_arrived_5 : decode cX5_arrived 5 = .ok (.invokevirtual 136, 3) := by decide +kernel
theorem dX5_arrived_8 : decode cX5_arrived 8 = .ok (.ireturn, 1) := by decide +kernel
theorem dX5_shut_0 : decode cX5_shut 0 = .ok (.iconst 0, 1) := by decide +kernel
theorem dX5_shut_1 : decode cX5_shut 1 = .ok (.istore_n 1, 1) := by decide +kernel
theorem dX5_shut_2 : decode cX5_shut 2 = .ok (.iconst 0, 1) := by decide +kernel
theorem dX5_shut_3 : decode cX5_shut 3 = .ok (.istore_n 2, 1) := by decide +kernel
theorem dX5_shut_4 : decode cX5_shut 4 = .ok (.iload_n 2, 1) := by decide +kernel
theorem dX5_shut_5 : decode cX5_shut 5 = .ok (.aload_n 0, 1) := by decide +kernel
theorem dX5_shut_6 : decode cX5_shut 6 = .ok (.getfield 51, 3) := by decide +kernel
theorem dX5_shut_9 : decode cX5_shut 9 = .ok (.if_icmp .ge 25, 3) := by decide +kernel
theorem dX5_shut_12 : decode cX5_shut 12 = .ok (.iload_n 1, 1) := by decide +kernel
theorem dX5_shut_13 : decode cX5_shut 13 = .ok (.aload_n 0, 1) := by decide +kernel
theorem dX5_shut_14 : decode cX5_shut 14 = .ok (.iload_n 2, 1) := by decide +kernel
theorem dX5_shut_15 : decode cX5_shut 15 = .ok (.invokevirtual 70, 3) := by decide +kernel
theorem dX5_shut_18 : decode cX5_shut 18 = .ok (.ifCond .eq 7, 3) := by decide +kernel
theorem dX5_shut_21 : decode cX5_shut 21 = .ok (.iconst 0, 1) := by decide +kernel
theorem dX5_shut_22 : decode cX5_shut 22 = .ok (.goto 4, 3) := by decide +kernel
theorem dX5_shut_25 : decode cX5_shut 25 = .ok (.iconst 1, 1) := by decide +kernel
theorem dX5_shut_26 : decode cX5_shut 26 = .ok (.iadd, 1) := by decide +kernel
theorem dX5_shut_27 : decode cX5_shut 27 = .ok (.istore_n 1, 1) := by decide +kernel
theorem dX5_shut_28 : decode cX5_shut 28 = .ok (.iinc 2 1, 3) := by decide +kernel
theorem dX5_shut_31 : decode cX5_shut 31 = .ok (.goto (-27), 3) := by decide +kernel
theorem dX5_shut_34 : decode cX5_shut 34 = .ok (.iload_n 1, 1) := by decide +kernel
theorem dX5_shut_35 : decode cX5_shut 35 = .ok (.ireturn, 1) := by decide +kernel
theorem dX5_closedRoads_0 : decode cX5_closedRoads 0 = .ok (.aload_n 0, 1) := by decide +kernel
theorem dX5_closedRoads_1 : decode cX5_closedRoads 1 = .ok (.aload_n 0, 1) := by decide +kernel
theorem dX5_closedRoads_2 : decode cX5_closedRoads 2 = .ok (.invokevirtual 139, 3) := by decide +kernel
theorem dX5_closedRoads_5 : decode cX5_closedRoads 5 = .ok (.invokevirtual 136, 3) := by decide +kernel
theorem dX5_closedRoads_8 : decode cX5_closedRoads 8 = .ok (.ireturn, 1) := by decide +kernel
theorem dX5_fray_0 : decode cX5_fray 0 = .ok (.iconst 0, 1) := by decide +kernel
theorem dX5_fray_1 : decode cX5_fray 1 = .ok (.aload_n 0, 1) := by decide +kernel
theorem dX5_fray_2 : decode cX5_fray 2 = .ok (.iload_n 1, 1) := by decide +kernel
theorem dX5_fray_3 : decode cX5_fray 3 = .ok (.iconst 4, 1) := by decide +kernel
theorem dX5_fray_4 : decode cX5_fray 4 = .ok (.invokevirtual 67, 3) := by decide +kernel
theorem dX5_fray_7 : decode cX5_fray 7 = .ok (.iconst (-1), 1) := by decide +kernel
theorem dX5_fray_8 : decode cX5_fray 8 = .ok (.if_icmp .ne 12, 3) := by decide +kernel
theorem dX5_fray_11 : decode cX5_fray 11 = .ok (.aload_n 0, 1) := by decide +kernel
theorem dX5_fray_12 : decode cX5_fray 12 = .ok (.getfield 31, 3) := by decide +kernel
theorem dX5_fray_15 : decode cX5_fray 15 = .ok (.iconst 0, 1) := by decide +kernel
theorem dX5_fray_16 : decode cX5_fray 16 = .ok (.iaload, 1) := by decide +kernel
theorem dX5_fray_17 : decode cX5_fray 17 = .ok (.goto 9, 3) := by decide +kernel
theorem dX5_fray_20 : decode cX5_fray 20 = .ok (.aload_n 0, 1) := by decide +kernel
theorem dX5_fray_21 : decode cX5_fray 21 = .ok (.iload_n 1, 1) := by decide +kernel
theorem dX5_fray_22 : decode cX5_fray 22 = .ok (.iconst 4, 1) := by decide +kernel
theorem dX5_fray_23 : decode cX5_fray 23 = .ok (.invokevirtual 67, 3) := by decide +kernel
theorem dX5_fray_26 : decode cX5_fray 26 = .ok (.aload_n 0, 1) := by decide +kernel
theorem dX5_fray_27 : decode cX5_fray 27 = .ok (.getfield 25, 3) := by decide +kernel
theorem dX5_fray_30 : decode cX5_fray 30 = .ok (.iload_n 1, 1) := by decide +kernel
theorem dX5_fray_31 : decode cX5_fray 31 = .ok (.iaload, 1) := by decide +kernel
theorem dX5_fray_32 : decode cX5_fray 32 = .ok (.isub, 1) := by decide +kernel
theorem dX5_fray_33 : decode cX5_fray 33 = .ok (.aload_n 0, 1) := by decide +kernel
theorem dX5_fray_34 : decode cX5_fray 34 = .ok (.getfield 28, 3) := by decide +kernel
theorem dX5_fray_37 : decode cX5_fray 37 = .ok (.iload_n 1, 1) := by decide +kernel
theorem dX5_fray_38 : decode cX5_fray 38 = .ok (.iaload, 1) := by decide +kernel
theorem dX5_fray_39 : decode cX5_fray 39 = .ok (.isub, 1) := by decide +kernel
theorem dX5_fray_40 : decode cX5_fray 40 = .ok (.invokestatic 142, 3) := by decide +kernel
theorem dX5_fray_43 : decode cX5_fray 43 = .ok (.ireturn, 1) := by decide +kernel
theorem dX5_frays_0 : decode cX5_frays 0 = .ok (.iconst 0, 1) := by decide +kernel
theorem dX5_frays_1 : decode cX5_frays 1 = .ok (.istore_n 2, 1) := by decide +kernel
theorem dX5_frays_2 : decode cX5_frays 2 = .ok (.iconst 0, 1) := by decide +kernel
theorem dX5_frays_3 : decode cX5_frays 3 = .ok (.istore_n 3, 1) := by decide +kernel
theorem dX5_frays_4 : decode cX5_frays 4 = .ok (.iload_n 3, 1) := by decide +kernel
theorem dX5_frays_5 : decode cX5_frays 5 = .ok (.aload_n 0, 1) := by decide +kernel
theorem dX5_frays_6 : decode cX5_frays 6 = .ok (.getfield 54, 3) := by decide +kernel
theorem dX5_frays_9 : decode cX5_frays 9 = .ok (.if_icmp .ge 35, 3) := by decide +kernel
theorem dX5_frays_12 : decode cX5_frays 12 = .ok (.iload_n 2, 1) := by decide +kernel
theorem dX5_frays_13 : decode cX5_frays 13 = .ok (.iload_n 1, 1) := by decide +kernel
theorem dX5_frays_14 : decode cX5_frays 14 = .ok (.ifCond .ne 13, 3) := by decide +kernel
theorem dX5_frays_17 : decode cX5_frays 17 = .ok (.aload_n 0, 1) := by decide +kernel
theorem dX5_frays_18 : decode cX5_frays 18 = .ok (.iload_n 3, 1) := by decide +kernel
theorem dX5_frays_19 : decode cX5_frays 19 = .ok (.iconst 4, 1) := by decide +kernel
theorem dX5_frays_20 : decode cX5_frays 20 = .ok (.invokevirtual 67, 3) := by decide +kernel
theorem dX5_frays_23 : decode cX5_frays 23 = .ok (.iconst (-1), 1) := by decide +kernel
theorem dX5_frays_24 : decode cX5_frays 24 = .ok (.if_icmp .eq 11, 3) := by decide +kernel
theorem dX5_frays_27 : decode cX5_frays 27 = .ok (.aload_n 0, 1) := by decide +kernel
theorem dX5_frays_28 : decode cX5_frays 28 = .ok (.iload_n 3, 1) := by decide +kernel
theorem dX5_frays_29 : decode cX5_frays 29 = .ok (.invokevirtual 145, 3) := by decide +kernel
theorem dX5_frays_32 : decode cX5_frays 32 = .ok (.goto 4, 3) := by decide +kernel
theorem dX5_frays_35 : decode cX5_frays 35 = .ok (.iconst 0, 1) := by decide +kernel
theorem dX5_frays_36 : decode cX5_frays 36 = .ok (.iadd, 1) := by decide +kernel
theorem dX5_frays_37 : decode cX5_frays 37 = .ok (.istore_n 2, 1) := by decide +kernel
theorem dX5_frays_38 : decode cX5_frays 38 = .ok (.iinc 3 1, 3) := by decide +kernel
theorem dX5_frays_41 : decode cX5_frays 41 = .ok (.goto (-37), 3) := by decide +kernel
theorem dX5_frays_44 : decode cX5_frays 44 = .ok (.iload_n 2, 1) := by decide +kernel
theorem dX5_frays_45 : decode cX5_frays 45 = .ok (.ireturn, 1) := by decide +kernel
theorem dX5_allFrayed_0 : decode cX5_allFrayed 0 = .ok (.aload_n 0, 1) := by decide +kernel
theorem dX5_allFrayed_1 : decode cX5_allFrayed 1 = .ok (.aload_n 0, 1) := by decide +kernel
theorem dX5_allFrayed_2 : decode cX5_allFrayed 2 = .ok (.iconst 0, 1) := by decide +kernel
theorem dX5_allFrayed_3 : decode cX5_allFrayed 3 = .ok (.invokevirtual 148, 3) := by decide +kernel
theorem dX5_allFrayed_6 : decode cX5_allFrayed 6 = .ok (.invokevirtual 136, 3) := by decide +kernel
theorem dX5_allFrayed_9 : decode cX5_allFrayed 9 = .ok (.ireturn, 1) := by decide +kernel
theorem dX5_road_0 : decode cX5_road 0 = .ok (.aload_n 0, 1) := by decide +kernel
theorem dX5_road_1 : decode cX5_road 1 = .ok (.iconst 0, 1) := by decide +kernel
theorem dX5_road_2 : decode cX5_road 2 = .ok (.putfield 40, 3) := by decide +kernel
theorem dX5_road_5 : decode cX5_road 5 = .ok (.aload_n 0, 1) := by decide +kernel
theorem dX5_road_6 : decode cX5_road 6 = .ok (.iload_n 1, 1) := by decide +kernel
theorem dX5_road_7 : decode cX5_road 7 = .ok (.invokevirtual 126, 3) := by decide +kernel
theorem dX5_road_10 : decode cX5_road 10 = .ok (.ifCond .eq 12, 3) := by decide +kernel
theorem dX5_road_13 : decode cX5_road 13 = .ok (.aload_n 0, 1) := by decide +kernel
theorem dX5_road_14 : decode cX5_road 14 = .ok (.iload_n 1, 1) := by decide +kernel
theorem dX5_road_15 : decode cX5_road 15 = .ok (.iload_n 2, 1) := by decide +kernel
theorem dX5_road_16 : decode cX5_road 16 = .ok (.invokevirtual 63, 3) := by decide +kernel
theorem dX5_road_19 : decode cX5_road 19 = .ok (.goto 8, 3) := by decide +kernel
theorem dX5_road_22 : decode cX5_road 22 = .ok (.aload_n 0, 1) := by decide +kernel
theorem dX5_road_23 : decode cX5_road 23 = .ok (.iconst 1, 1) := by decide +kernel
theorem dX5_road_24 : decode cX5_road 24 = .ok (.invokevirtual 116, 3) := by decide +kernel
theorem dX5_road_27 : decode cX5_road 27 = .ok (.ireturn, 1) := by decide +kernel
theorem dX5_lengthOf_0 : decode cX5_lengthOf 0 = .ok (.aload_n 0, 1) := by decide +kernel
theorem dX5_lengthOf_1 : decode cX5_lengthOf 1 = .ok (.iconst 0, 1) := by decide +kernel
theorem dX5_lengthOf_2 : decode cX5_lengthOf 2 = .ok (.putfield 40, 3) := by decide +kernel
theorem dX5_lengthOf_5 : decode cX5_lengthOf 5 = .ok (.aload_n 0, 1) := by decide +kernel
theorem dX5_lengthOf_6 : decode cX5_lengthOf 6 = .ok (.iload_n 1, 1) := by decide +kernel
theorem dX5_lengthOf_7 : decode cX5_lengthOf 7 = .ok (.invokevirtual 126, 3) := by decide +kernel
theorem dX5_lengthOf_10 : decode cX5_lengthOf 10 = .ok (.ifCond .eq 11, 3) := by decide +kernel
theorem dX5_lengthOf_13 : decode cX5_lengthOf 13 = .ok (.aload_n 0, 1) := by decide +kernel
theorem dX5_lengthOf_14 : decode cX5_lengthOf 14 = .ok (.iload_n 1, 1) := by decide +kernel
theorem dX5_lengthOf_15 : decode cX5_lengthOf 15 = .ok (.invokevirtual 74, 3) := by decide +kernel
theorem dX5_lengthOf_18 : decode cX5_lengthOf 18 = .ok (.goto 8, 3) := by decide +kernel
theorem dX5_lengthOf_21 : decode cX5_lengthOf 21 = .ok (.aload_n 0, 1) := by decide +kernel
theorem dX5_lengthOf_22 : decode cX5_lengthOf 22 = .ok (.iconst 1, 1) := by decide +kernel
theorem dX5_lengthOf_23 : decode cX5_lengthOf 23 = .ok (.invokevirtual 116, 3) := by decide +kernel
theorem dX5_lengthOf_26 : decode cX5_lengthOf 26 = .ok (.ireturn, 1) := by decide +kernel
theorem dX5_wearOf_0 : decode cX5_wearOf 0 = .ok (.aload_n 0, 1) := by decide +kernel
theorem dX5_wearOf_1 : decode cX5_wearOf 1 = .ok (.iload_n 1, 1) := by decide +kernel
theorem dX5_wearOf_2 : decode cX5_wearOf 2 = .ok (.iconst 1, 1) := by decide +kernel
theorem dX5_wearOf_3 : decode cX5_wearOf 3 = .ok (.invokevirtual 152, 3) := by decide +kernel
theorem dX5_wearOf_6 : decode cX5_wearOf 6 = .ok (.ireturn, 1) := by decide +kernel
theorem dX5_knotsOf_0 : decode cX5_knotsOf 0 = .ok (.aload_n 0, 1) := by decide +kernel
theorem dX5_knotsOf_1 : decode cX5_knotsOf 1 = .ok (.iload_n 1, 1) := by decide +kernel
theorem dX5_knotsOf_2 : decode cX5_knotsOf 2 = .ok (.iconst 2, 1) := by decide +kernel
theorem dX5_knotsOf_3 : decode cX5_knotsOf 3 = .ok (.invokevirtual 152, 3) := by decide +kernel
theorem dX5_knotsOf_6 : decode cX5_knotsOf 6 = .ok (.ireturn, 1) := by decide +kernel
theorem dX5_closedFor_0 : decode cX5_closedFor 0 = .ok (.aload_n 0, 1) := by decide +kernel
theorem dX5_closedFor_1 : decode cX5_closedFor 1 = .ok (.iload_n 1, 1) := by decide +kernel
theorem dX5_closedFor_2 : decode cX5_closedFor 2 = .ok (.iconst 0, 1) := by decide +kernel
theorem dX5_closedFor_3 : decode cX5_closedFor 3 = .ok (.invokevirtual 152, 3) := by decide +kernel
theorem dX5_closedFor_6 : decode cX5_closedFor 6 = .ok (.ireturn, 1) := by decide +kernel
theorem dX5_touristsOn_0 : decode cX5_touristsOn 0 = .ok (.aload_n 0, 1) := by decide +kernel
theorem dX5_touristsOn_1 : decode cX5_touristsOn 1 = .ok (.iconst 0, 1) := by decide +kernel
theorem dX5_touristsOn_2 : decode cX5_touristsOn 2 = .ok (.putfield 40, 3) := by decide +kernel
theorem dX5_touristsOn_5 : decode cX5_touristsOn 5 = .ok (.aload_n 0, 1) := by decide +kernel
theorem dX5_touristsOn_6 : decode cX5_touristsOn 6 = .ok (.iload_n 1, 1) := by decide +kernel
theorem dX5_touristsOn_7 : decode cX5_touristsOn 7 = .ok (.invokevirtual 126, 3) := by decide +kernel
theorem dX5_touristsOn_10 : decode cX5_touristsOn 10 = .ok (.ifCond .eq 11, 3) := by decide +kernel
theorem dX5_touristsOn_13 : decode cX5_touristsOn 13 = .ok (.aload_n 0, 1) := by decide +kernel
theorem dX5_touristsOn_14 : decode cX5_touristsOn 14 = .ok (.iload_n 1, 1) := by decide +kernel
theorem dX5_touristsOn_15 : decode cX5_touristsOn 15 = .ok (.invokevirtual 110, 3) := by decide +kernel
theorem dX5_touristsOn_18 : decode cX5_touristsOn 18 = .ok (.goto 8, 3) := by decide +kernel
theorem dX5_touristsOn_21 : decode cX5_touristsOn 21 = .ok (.aload_n 0, 1) := by decide +kernel
theorem dX5_touristsOn_22 : decode cX5_touristsOn 22 = .ok (.iconst 1, 1) := by decide +kernel
theorem dX5_touristsOn_23 : decode cX5_touristsOn 23 = .ok (.invokevirtual 116, 3) := by decide +kernel
theorem dX5_touristsOn_26 : decode cX5_touristsOn 26 = .ok (.ireturn, 1) := by decide +kernel
theorem dX5_worn_0 : decode cX5_worn 0 = .ok (.iconst (-1), 1) := by decide +kernel
theorem dX5_worn_1 : decode cX5_worn 1 = .ok (.istore_n 1, 1) := by decide +kernel
theorem dX5_worn_2 : decode cX5_worn 2 = .ok (.iconst 0, 1) := by decide +kernel
theorem dX5_worn_3 : decode cX5_worn 3 = .ok (.istore_n 2, 1) := by decide +kernel
theorem dX5_worn_4 : decode cX5_worn 4 = .ok (.iload_n 2, 1) := by decide +kernel
theorem dX5_worn_5 : decode cX5_worn 5 = .ok (.aload_n 0, 1) := by decide +kernel
theorem dX5_worn_6 : decode cX5_worn 6 = .ok (.getfield 51, 3) := by decide +kernel
theorem dX5_worn_9 : decode cX5_worn 9 = .ok (.if_icmp .ge 39, 3) := by decide +kernel
theorem dX5_worn_12 : decode cX5_worn 12 = .ok (.aload_n 0, 1) := by decide +kernel
theorem dX5_worn_13 : decode cX5_worn 13 = .ok (.iload_n 2, 1) := by decide +kernel
theorem dX5_worn_14 : decode cX5_worn 14 = .ok (.invokevirtual 70, 3) := by decide +kernel
theorem dX5_worn_17 : decode cX5_worn 17 = .ok (.ifCond .eq 25, 3) := by decide +kernel
theorem dX5_worn_20 : decode cX5_worn 20 = .ok (.iload_n 1, 1) := by decide +kernel
theorem dX5_worn_21 : decode cX5_worn 21 = .ok (.iconst (-1), 1) := by decide +kernel
theorem dX5_worn_22 : decode cX5_worn 22 = .ok (.if_icmp .eq 18, 3) := by decide +kernel
theorem dX5_worn_25 : decode cX5_worn 25 = .ok (.aload_n 0, 1) := by decide +kernel
theorem dX5_worn_26 : decode cX5_worn 26 = .ok (.iload_n 2, 1) := by decide +kernel
theorem dX5_worn_27 : decode cX5_worn 27 = .ok (.iconst 1, 1) := by decide +kernel
theorem dX5_worn_28 : decode cX5_worn 28 = .ok (.invokevirtual 63, 3) := by decide +kernel
theorem dX5_worn_31 : decode cX5_worn 31 = .ok (.aload_n 0, 1) := by decide +kernel
theorem dX5_worn_32 : decode cX5_worn 32 = .ok (.iload_n 1, 1) := by decide +kernel
theorem dX5_worn_33 : decode cX5_worn 33 = .ok (.iconst 1, 1) := by decide +kernel
theorem dX5_worn_34 : decode cX5_worn 34 = .ok (.invokevirtual 63, 3) := by decide +kernel
theorem dX5_worn_37 : decode cX5_worn 37 = .ok (.if_icmp .le 5, 3) := by decide +kernel
theorem dX5_worn_40 : decode cX5_worn 40 = .ok (.iload_n 2, 1) := by decide +kernel
theorem dX5_worn_41 : decode cX5_worn 41 = .ok (.istore_n 1, 1) := by decide +kernel
theorem dX5_worn_42 : decode cX5_worn 42 = .ok (.iinc 2 1, 3) := by decide +kernel
theorem dX5_worn_45 : decode cX5_worn 45 = .ok (.goto (-41), 3) := by decide +kernel
theorem dX5_worn_48 : decode cX5_worn 48 = .ok (.iload_n 1, 1) := by decide +kernel
theorem dX5_worn_49 : decode cX5_worn 49 = .ok (.ireturn, 1) := by decide +kernel
theorem dX5_mostWorn_0 : decode cX5_mostWorn 0 = .ok (.aload_n 0, 1) := by decide +kernel
theorem dX5_mostWorn_1 : decode cX5_mostWorn 1 = .ok (.aload_n 0, 1) := by decide +kernel
theorem dX5_mostWorn_2 : decode cX5_mostWorn 2 = .ok (.invokevirtual 155, 3) := by decide +kernel
theorem dX5_mostWorn_5 : decode cX5_mostWorn 5 = .ok (.invokevirtual 136, 3) := by decide +kernel
theorem dX5_mostWorn_8 : decode cX5_mostWorn 8 = .ok (.ireturn, 1) := by decide +kernel
theorem dX5_distanceOf_0 : decode cX5_distanceOf 0 = .ok (.aload_n 0, 1) := by decide +kernel
theorem dX5_distanceOf_1 : decode cX5_distanceOf 1 = .ok (.iconst 0, 1) := by decide +kernel
theorem dX5_distanceOf_2 : decode cX5_distanceOf 2 = .ok (.putfield 40, 3) := by decide +kernel
theorem dX5_distanceOf_5 : decode cX5_distanceOf 5 = .ok (.aload_n 0, 1) := by decide +kernel
theorem dX5_distanceOf_6 : decode cX5_distanceOf 6 = .ok (.iload_n 1, 1) := by decide +kernel
theorem dX5_distanceOf_7 : decode cX5_distanceOf 7 = .ok (.invokevirtual 119, 3) := by decide +kernel
theorem dX5_distanceOf_10 : decode cX5_distanceOf 10 = .ok (.ifCond .eq 21, 3) := by decide +kernel
theorem dX5_distanceOf_13 : decode cX5_distanceOf 13 = .ok (.aload_n 0, 1) := by decide +kernel
theorem dX5_distanceOf_14 : decode cX5_distanceOf 14 = .ok (.iload_n 2, 1) := by decide +kernel
theorem dX5_distanceOf_15 : decode cX5_distanceOf 15 = .ok (.invokevirtual 119, 3) := by decide +kernel
theorem dX5_distanceOf_18 : decode cX5_distanceOf 18 = .ok (.ifCond .eq 13, 3) := by decide +kernel
theorem dX5_distanceOf_21 : decode cX5_distanceOf 21 = .ok (.aload_n 0, 1) := by decide +kernel
theorem dX5_distanceOf_22 : decode cX5_distanceOf 22 = .ok (.iload_n 1, 1) := by decide +kernel
theorem dX5_distanceOf_23 : decode cX5_distanceOf 23 = .ok (.iload_n 2, 1) := by decide +kernel
theorem dX5_distanceOf_24 : decode cX5_distanceOf 24 = .ok (.iload_n 3, 1) := by decide +kernel
theorem dX5_distanceOf_25 : decode cX5_distanceOf 25 = .ok (.invokevirtual 122, 3) := by decide +kernel
theorem dX5_distanceOf_28 : decode cX5_distanceOf 28 = .ok (.goto 8, 3) := by decide +kernel
theorem dX5_distanceOf_31 : decode cX5_distanceOf 31 = .ok (.aload_n 0, 1) := by decide +kernel
theorem dX5_distanceOf_32 : decode cX5_distanceOf 32 = .ok (.iconst 1, 1) := by decide +kernel
theorem dX5_distanceOf_33 : decode cX5_distanceOf 33 = .ok (.invokevirtual 116, 3) := by decide +kernel
theorem dX5_distanceOf_36 : decode cX5_distanceOf 36 = .ok (.ireturn, 1) := by decide +kernel
theorem dX5_openDistance_0 : decode cX5_openDistance 0 = .ok (.aload_n 0, 1) := by decide +kernel
theorem dX5_openDistance_1 : decode cX5_openDistance 1 = .ok (.iload_n 1, 1) := by decide +kernel
theorem dX5_openDistance_2 : decode cX5_openDistance 2 = .ok (.iload_n 2, 1) := by decide +kernel
theorem dX5_openDistance_3 : decode cX5_openDistance 3 = .ok (.iconst 0, 1) := by decide +kernel
theorem dX5_openDistance_4 : decode cX5_openDistance 4 = .ok (.invokevirtual 158, 3) := by decide +kernel
theorem dX5_openDistance_7 : decode cX5_openDistance 7 = .ok (.ireturn, 1) := by decide +kernel
theorem dX5_distance_0 : decode cX5_distance 0 = .ok (.aload_n 0, 1) := by decide +kernel
theorem dX5_distance_1 : decode cX5_distance 1 = .ok (.iload_n 1, 1) := by decide +kernel
theorem dX5_distance_2 : decode cX5_distance 2 = .ok (.iload_n 2, 1) := by decide +kernel
theorem dX5_distance_3 : decode cX5_distance 3 = .ok (.iconst 1, 1) := by decide +kernel
theorem dX5_distance_4 : decode cX5_distance 4 = .ok (.invokevirtual 158, 3) := by decide +kernel
theorem dX5_distance_7 : decode cX5_distance 7 = .ok (.ireturn, 1) := by decide +kernel
theorem dX5_nextRoad_0 : decode cX5_nextRoad 0 = .ok (.aload_n 0, 1) := by decide +kernel
theorem dX5_nextRoad_1 : decode cX5_nextRoad 1 = .ok (.iconst 0, 1) := by decide +kernel
theorem dX5_nextRoad_2 : decode cX5_nextRoad 2 = .ok (.putfield 40, 3) := by decide +kernel
theorem dX5_nextRoad_5 : decode cX5_nextRoad 5 = .ok (.aload_n 0, 1) := by decide +kernel
theorem dX5_nextRoad_6 : decode cX5_nextRoad 6 = .ok (.iload_n 1, 1) := by decide +kernel
theorem dX5_nextRoad_7 : decode cX5_nextRoad 7 = .ok (.invokevirtual 119, 3) := by decide +kernel
theorem dX5_nextRoad_10 : decode cX5_nextRoad 10 = .ok (.ifCond .eq 20, 3) := by decide +kernel
theorem dX5_nextRoad_13 : decode cX5_nextRoad 13 = .ok (.aload_n 0, 1) := by decide +kernel
theorem dX5_nextRoad_14 : decode cX5_nextRoad 14 = .ok (.iload_n 2, 1) := by decide +kernel
theorem dX5_nextRoad_15 : decode cX5_nextRoad 15 = .ok (.invokevirtual 119, 3) := by decide +kernel
theorem dX5_nextRoad_18 : decode cX5_nextRoad 18 = .ok (.ifCond .eq 12, 3) := by decide +kernel
theorem dX5_nextRoad_21 : decode cX5_nextRoad 21 = .ok (.aload_n 0, 1) := by decide +kernel
theorem dX5_nextRoad_22 : decode cX5_nextRoad 22 = .ok (.iload_n 1, 1) := by decide +kernel
theorem dX5_nextRoad_23 : decode cX5_nextRoad 23 = .ok (.iload_n 2, 1) := by decide +kernel
theorem dX5_nextRoad_24 : decode cX5_nextRoad 24 = .ok (.invokevirtual 94, 3) := by decide +kernel
theorem dX5_nextRoad_27 : decode cX5_nextRoad 27 = .ok (.goto 8, 3) := by decide +kernel
theorem dX5_nextRoad_30 : decode cX5_nextRoad 30 = .ok (.aload_n 0, 1) := by decide +kernel
theorem dX5_nextRoad_31 : decode cX5_nextRoad 31 = .ok (.iconst 1, 1) := by decide +kernel
theorem dX5_nextRoad_32 : decode cX5_nextRoad 32 = .ok (.invokevirtual 116, 3) := by decide +kernel
theorem dX5_nextRoad_35 : decode cX5_nextRoad 35 = .ok (.ireturn, 1) := by decide +kernel
theorem dX5_parted_0 : decode cX5_parted 0 = .ok (.iconst 0, 1) := by decide +kernel
theorem dX5_parted_1 : decode cX5_parted 1 = .ok (.istore_n 1, 1) := by decide +kernel
theorem dX5_parted_2 : decode cX5_parted 2 = .ok (.iconst 0, 1) := by decide +kernel
theorem dX5_parted_3 : decode cX5_parted 3 = .ok (.istore_n 2, 1) := by decide +kernel
theorem dX5_parted_4 : decode cX5_parted 4 = .ok (.iload_n 2, 1) := by decide +kernel
theorem dX5_parted_5 : decode cX5_parted 5 = .ok (.aload_n 0, 1) := by decide +kernel
theorem dX5_parted_6 : decode cX5_parted 6 = .ok (.getfield 44, 3) := by decide +kernel
theorem dX5_parted_9 : decode cX5_parted 9 = .ok (.if_icmp .ge 48, 3) := by decide +kernel
theorem dX5_parted_12 : decode cX5_parted 12 = .ok (.aload_n 0, 1) := by decide +kernel
theorem dX5_parted_13 : decode cX5_parted 13 = .ok (.iload_n 2, 1) := by decide +kernel
theorem dX5_parted_14 : decode cX5_parted 14 = .ok (.iconst 0, 1) := by decide +kernel
theorem dX5_parted_15 : decode cX5_parted 15 = .ok (.invokevirtual 83, 3) := by decide +kernel
theorem dX5_parted_18 : decode cX5_parted 18 = .ok (.iconst 0, 1) := by decide +kernel
theorem dX5_parted_19 : decode cX5_parted 19 = .ok (.istore_n 3, 1) := by decide +kernel
theorem dX5_parted_20 : decode cX5_parted 20 = .ok (.iload_n 3, 1) := by decide +kernel
theorem dX5_parted_21 : decode cX5_parted 21 = .ok (.iload_n 2, 1) := by decide +kernel
theorem dX5_parted_22 : decode cX5_parted 22 = .ok (.if_icmp .ge 29, 3) := by decide +kernel
theorem dX5_parted_25 : decode cX5_parted 25 = .ok (.iload_n 1, 1) := by decide +kernel
theorem dX5_parted_26 : decode cX5_parted 26 = .ok (.aload_n 0, 1) := by decide +kernel
theorem dX5_parted_27 : decode cX5_parted 27 = .ok (.getfield 37, 3) := by decide +kernel
theorem dX5_parted_30 : decode cX5_parted 30 = .ok (.iload_n 3, 1) := by decide +kernel
theorem dX5_parted_31 : decode cX5_parted 31 = .ok (.iaload, 1) := by decide +kernel
theorem dX5_parted_32 : decode cX5_parted 32 = .ok (.sipush 9999, 3) := by decide +kernel
theorem dX5_parted_35 : decode cX5_parted 35 = .ok (.if_icmp .lt 7, 3) := by decide +kernel
theorem dX5_parted_38 : decode cX5_parted 38 = .ok (.iconst 1, 1) := by decide +kernel
theorem dX5_parted_39 : decode cX5_parted 39 = .ok (.goto 4, 3) := by decide +kernel
theorem dX5_parted_42 : decode cX5_parted 42 = .ok (.iconst 0, 1) := by decide +kernel
theorem dX5_parted_43 : decode cX5_parted 43 = .ok (.iadd, 1) := by decide +kernel
theorem dX5_parted_44 : decode cX5_parted 44 = .ok (.istore_n 1, 1) := by decide +kernel
theorem dX5_parted_45 : decode cX5_parted 45 = .ok (.iinc 3 1, 3) := by decide +kernel
theorem dX5_parted_48 : decode cX5_parted 48 = .ok (.goto (-28), 3) := by decide +kernel
theorem dX5_parted_51 : decode cX5_parted 51 = .ok (.iinc 2 1, 3) := by decide +kernel
theorem dX5_parted_54 : decode cX5_parted 54 = .ok (.goto (-50), 3) := by decide +kernel
theorem dX5_parted_57 : decode cX5_parted 57 = .ok (.iload_n 1, 1) := by decide +kernel
theorem dX5_parted_58 : decode cX5_parted 58 = .ok (.ireturn, 1) := by decide +kernel
theorem dX5_partedPairs_0 : decode cX5_partedPairs 0 = .ok (.aload_n 0, 1) := by decide +kernel
theorem dX5_partedPairs_1 : decode cX5_partedPairs 1 = .ok (.aload_n 0, 1) := by decide +kernel
theorem dX5_partedPairs_2 : decode cX5_partedPairs 2 = .ok (.invokevirtual 161, 3) := by decide +kernel
theorem dX5_partedPairs_5 : decode cX5_partedPairs 5 = .ok (.invokevirtual 136, 3) := by decide +kernel
theorem dX5_partedPairs_8 : decode cX5_partedPairs 8 = .ok (.ireturn, 1) := by decide +kernel
theorem dX5_tourist_0 : decode cX5_tourist 0 = .ok (.aload_n 0, 1) := by decide +kernel
theorem dX5_tourist_1 : decode cX5_tourist 1 = .ok (.iconst 0, 1) := by decide +kernel
theorem dX5_tourist_2 : decode cX5_tourist 2 = .ok (.putfield 40, 3) := by decide +kernel
theorem dX5_tourist_5 : decode cX5_tourist 5 = .ok (.aload_n 0, 1) := by decide +kernel
theorem dX5_tourist_6 : decode cX5_tourist 6 = .ok (.iload_n 1, 1) := by decide +kernel
theorem dX5_tourist_7 : decode cX5_tourist 7 = .ok (.invokevirtual 164, 3) := by decide +kernel
theorem dX5_tourist_10 : decode cX5_tourist 10 = .ok (.ifCond .eq 12, 3) := by decide +kernel
theorem dX5_tourist_13 : decode cX5_tourist 13 = .ok (.aload_n 0, 1) := by decide +kernel
theorem dX5_tourist_14 : decode cX5_tourist 14 = .ok (.iload_n 1, 1) := by decide +kernel
theorem dX5_tourist_15 : decode cX5_tourist 15 = .ok (.iload_n 2, 1) := by decide +kernel
theorem dX5_tourist_16 : decode cX5_tourist 16 = .ok (.invokevirtual 67, 3) := by decide +kernel
theorem dX5_tourist_19 : decode cX5_tourist 19 = .ok (.goto 8, 3) := by decide +kernel
theorem dX5_tourist_22 : decode cX5_tourist 22 = .ok (.aload_n 0, 1) := by decide +kernel
theorem dX5_tourist_23 : decode cX5_tourist 23 = .ok (.iconst 1, 1) := by decide +kernel
theorem dX5_tourist_24 : decode cX5_tourist 24 = .ok (.invokevirtual 116, 3) := by decide +kernel
theorem dX5_tourist_27 : decode cX5_tourist 27 = .ok (.ireturn, 1) := by decide +kernel
theorem dX5_placeOf_0 : decode cX5_placeOf 0 = .ok (.aload_n 0, 1) := by decide +kernel
theorem dX5_placeOf_1 : decode cX5_placeOf 1 = .ok (.iload_n 1, 1) := by decide +kernel
theorem dX5_placeOf_2 : decode cX5_placeOf 2 = .ok (.iconst 0, 1) := by decide +kernel
theorem dX5_placeOf_3 : decode cX5_placeOf 3 = .ok (.invokevirtual 167, 3) := by decide +kernel
theorem dX5_placeOf_6 : decode cX5_placeOf 6 = .ok (.ireturn, 1) := by decide +kernel
theorem dX5_roadOf_0 : decode cX5_roadOf 0 = .ok (.aload_n 0, 1) := by decide +kernel
theorem dX5_roadOf_1 : decode cX5_roadOf 1 = .ok (.iload_n 1, 1) := by decide +kernel
theorem dX5_roadOf_2 : decode cX5_roadOf 2 = .ok (.iconst 1, 1) := by decide +kernel
theorem dX5_roadOf_3 : decode cX5_roadOf 3 = .ok (.invokevirtual 167, 3) := by decide +kernel
theorem dX5_roadOf_6 : decode cX5_roadOf 6 = .ok (.ireturn, 1) := by decide +kernel
theorem dX5_dyeOf_0 : decode cX5_dyeOf 0 = .ok (.aload_n 0, 1) := by decide +kernel
theorem dX5_dyeOf_1 : decode cX5_dyeOf 1 = .ok (.iload_n 1, 1) := by decide +kernel
theorem dX5_dyeOf_2 : decode cX5_dyeOf 2 = .ok (.iconst 3, 1) := by decide +kernel
theorem dX5_dyeOf_3 : decode cX5_dyeOf 3 = .ok (.invokevirtual 167, 3) := by decide +kernel
theorem dX5_dyeOf_6 : decode cX5_dyeOf 6 = .ok (.ireturn, 1) := by decide +kernel
theorem dX5_frayOf_0 : decode cX5_frayOf 0 = .ok (.aload_n 0, 1) := by decide +kernel
theorem dX5_frayOf_1 : decode cX5_frayOf 1 = .ok (.iconst 0, 1) := by decide +kernel
theorem dX5_frayOf_2 : decode cX5_frayOf 2 = .ok (.putfield 40, 3) := by decide +kernel
theorem dX5_frayOf_5 : decode cX5_frayOf 5 = .ok (.aload_n 0, 1) := by decide +kernel
theorem dX5_frayOf_6 : decode cX5_frayOf 6 = .ok (.iload_n 1, 1) := by decide +kernel
theorem dX5_frayOf_7 : decode cX5_frayOf 7 = .ok (.invokevirtual 164, 3) := by decide +kernel
theorem dX5_frayOf_10 : decode cX5_frayOf 10 = .ok (.ifCond .eq 11, 3) := by decide +kernel
theorem dX5_frayOf_13 : decode cX5_frayOf 13 = .ok (.aload_n 0, 1) := by decide +kernel
theorem dX5_frayOf_14 : decode cX5_frayOf 14 = .ok (.iload_n 1, 1) := by decide +kernel
theorem dX5_frayOf_15 : decode cX5_frayOf 15 = .ok (.invokevirtual 145, 3) := by decide +kernel
theorem dX5_frayOf_18 : decode cX5_frayOf 18 = .ok (.goto 8, 3) := by decide +kernel
theorem dX5_frayOf_21 : decode cX5_frayOf 21 = .ok (.aload_n 0, 1) := by decide +kernel
theorem dX5_frayOf_22 : decode cX5_frayOf 22 = .ok (.iconst 1, 1) := by decide +kernel
theorem dX5_frayOf_23 : decode cX5_frayOf 23 = .ok (.invokevirtual 116, 3) := by decide +kernel
theorem dX5_frayOf_26 : decode cX5_frayOf 26 = .ok (.ireturn, 1) := by decide +kernel
theorem dX5_hasArrived_0 : decode cX5_hasArrived 0 = .ok (.aload_n 0, 1) := by decide +kernel
theorem dX5_hasArrived_1 : decode cX5_hasArrived 1 = .ok (.iload_n 1, 1) := by decide +kernel
theorem dX5_hasArrived_2 : decode cX5_hasArrived 2 = .ok (.iconst 4, 1) := by decide +kernel
theorem dX5_hasArrived_3 : decode cX5_hasArrived 3 = .ok (.invokevirtual 167, 3) := by decide +kernel
theorem dX5_hasArrived_6 : decode cX5_hasArrived 6 = .ok (.istore_n 2, 1) := by decide +kernel
theorem dX5_hasArrived_7 : decode cX5_hasArrived 7 = .ok (.aload_n 0, 1) := by decide +kernel
theorem dX5_hasArrived_8 : decode cX5_hasArrived 8 = .ok (.getfield 40, 3) := by decide +kernel
theorem dX5_hasArrived_11 : decode cX5_hasArrived 11 = .ok (.ifCond .ne 12, 3) := by decide +kernel
theorem dX5_hasArrived_14 : decode cX5_hasArrived 14 = .ok (.iload_n 2, 1) := by decide +kernel
theorem dX5_hasArrived_15 : decode cX5_hasArrived 15 = .ok (.iconst (-1), 1) := by decide +kernel
theorem dX5_hasArrived_16 : decode cX5_hasArrived 16 = .ok (.if_icmp .eq 7, 3) := by decide +kernel
theorem dX5_hasArrived_19 : decode cX5_hasArrived 19 = .ok (.iconst 1, 1) := by decide +kernel
theorem dX5_hasArrived_20 : decode cX5_hasArrived 20 = .ok (.goto 4, 3) := by decide +kernel
theorem dX5_hasArrived_23 : decode cX5_hasArrived 23 = .ok (.iconst 0, 1) := by decide +kernel
theorem dX5_hasArrived_24 : decode cX5_hasArrived 24 = .ok (.ireturn, 1) := by decide +kernel
theorem dX5_until_0 : decode cX5_until 0 = .ok (.aload_n 0, 1) := by decide +kernel
theorem dX5_until_1 : decode cX5_until 1 = .ok (.invokevirtual 170, 3) := by decide +kernel
theorem dX5_until_4 : decode cX5_until 4 = .ok (.iconst 0, 1) := by decide +kernel
theorem dX5_until_5 : decode cX5_until 5 = .ok (.istore_n 2, 1) := by decide +kernel
theorem dX5_until_6 : decode cX5_until 6 = .ok (.iload_n 2, 1) := by decide +kernel
theorem dX5_until_7 : decode cX5_until 7 = .ok (.bipush 100, 2) := by decide +kernel
theorem dX5_until_9 : decode cX5_until 9 = .ok (.if_icmp .gt 23, 3) := by decide +kernel
theorem dX5_until_12 : decode cX5_until 12 = .ok (.aload_n 0, 1) := by decide +kernel
theorem dX5_until_13 : decode cX5_until 13 = .ok (.iload_n 1, 1) := by decide +kernel
theorem dX5_until_14 : decode cX5_until 14 = .ok (.iconst 4, 1) := by decide +kernel
theorem dX5_until_15 : decode cX5_until 15 = .ok (.invokevirtual 67, 3) := by decide +kernel
theorem dX5_until_18 : decode cX5_until 18 = .ok (.iconst (-1), 1) := by decide +kernel
theorem dX5_until_19 : decode cX5_until 19 = .ok (.if_icmp .ne 13, 3) := by decide +kernel
theorem dX5_until_22 : decode cX5_until 22 = .ok (.aload_n 0, 1) := by decide +kernel
theorem dX5_until_23 : decode cX5_until 23 = .ok (.invokevirtual 113, 3) := by decide +kernel
theorem dX5_until_26 : decode cX5_until 26 = .ok (.iinc 2 1, 3) := by decide +kernel
theorem dX5_until_29 : decode cX5_until 29 = .ok (.goto (-23), 3) := by decide +kernel
theorem dX5_until_32 : decode cX5_until 32 = .ok (.aload_n 0, 1) := by decide +kernel
theorem dX5_until_33 : decode cX5_until 33 = .ok (.invokevirtual 173, 3) := by decide +kernel
theorem dX5_until_36 : decode cX5_until 36 = .ok (.iload_n 2, 1) := by decide +kernel
theorem dX5_until_37 : decode cX5_until 37 = .ok (.bipush 100, 2) := by decide +kernel
theorem dX5_until_39 : decode cX5_until 39 = .ok (.if_icmp .le 7, 3) := by decide +kernel
theorem dX5_until_42 : decode cX5_until 42 = .ok (.iconst (-1), 1) := by decide +kernel
theorem dX5_until_43 : decode cX5_until 43 = .ok (.goto 4, 3) := by decide +kernel
theorem dX5_until_46 : decode cX5_until 46 = .ok (.iload_n 2, 1) := by decide +kernel
theorem dX5_until_47 : decode cX5_until 47 = .ok (.ireturn, 1) := by decide +kernel
theorem dX5_hoursUntilArrived_0 : decode cX5_hoursUntilArrived 0 = .ok (.aload_n 0, 1) := by decide +kernel
theorem dX5_hoursUntilArrived_1 : decode cX5_hoursUntilArrived 1 = .ok (.iconst 0, 1) := by decide +kernel
theorem dX5_hoursUntilArrived_2 : decode cX5_hoursUntilArrived 2 = .ok (.putfield 40, 3) := by decide +kernel
theorem dX5_hoursUntilArrived_5 : decode cX5_hoursUntilArrived 5 = .ok (.aload_n 0, 1) := by decide +kernel
theorem dX5_hoursUntilArrived_6 : decode cX5_hoursUntilArrived 6 = .ok (.iload_n 1, 1) := by decide +kernel
theorem dX5_hoursUntilArrived_7 : decode cX5_hoursUntilArrived 7 = .ok (.invokevirtual 164, 3) := by decide +kernel
theorem dX5_hoursUntilArrived_10 : decode cX5_hoursUntilArrived 10 = .ok (.ifCond .eq 11, 3) := by decide +kernel
theorem dX5_hoursUntilArrived_13 : decode cX5_hoursUntilArrived 13 = .ok (.aload_n 0, 1) := by decide +kernel
theorem dX5_hoursUntilArrived_14 : decode cX5_hoursUntilArrived 14 = .ok (.iload_n 1, 1) := by decide +kernel
theorem dX5_hoursUntilArrived_15 : decode cX5_hoursUntilArrived 15 = .ok (.invokevirtual 176, 3) := by decide +kernel
theorem dX5_hoursUntilArrived_18 : decode cX5_hoursUntilArrived 18 = .ok (.goto 8, 3) := by decide +kernel
theorem dX5_hoursUntilArrived_21 : decode cX5_hoursUntilArrived 21 = .ok (.aload_n 0, 1) := by decide +kernel
theorem dX5_hoursUntilArrived_22 : decode cX5_hoursUntilArrived 22 = .ok (.iconst 1, 1) := by decide +kernel
theorem dX5_hoursUntilArrived_23 : decode cX5_hoursUntilArrived 23 = .ok (.invokevirtual 116, 3) := by decide +kernel
theorem dX5_hoursUntilArrived_26 : decode cX5_hoursUntilArrived 26 = .ok (.ireturn, 1) := by decide +kernel
theorem dX5_frayedIn_0 : decode cX5_frayedIn 0 = .ok (.aload_n 0, 1) := by decide +kernel
theorem dX5_frayedIn_1 : decode cX5_frayedIn 1 = .ok (.iconst 0, 1) := by decide +kernel
theorem dX5_frayedIn_2 : decode cX5_frayedIn 2 = .ok (.putfield 40, 3) := by decide +kernel
theorem dX5_frayedIn_5 : decode cX5_frayedIn 5 = .ok (.iload_n 1, 1) := by decide +kernel
theorem dX5_frayedIn_6 : decode cX5_frayedIn 6 = .ok (.iconst 1, 1) := by decide +kernel
theorem dX5_frayedIn_7 : decode cX5_frayedIn 7 = .ok (.bipush 50, 2) := by decide +kernel
theorem dX5_frayedIn_9 : decode cX5_frayedIn 9 = .ok (.invokestatic 47, 3) := by decide +kernel
theorem dX5_frayedIn_12 : decode cX5_frayedIn 12 = .ok (.ifCond .ne 9, 3) := by decide +kernel
theorem dX5_frayedIn_15 : decode cX5_frayedIn 15 = .ok (.aload_n 0, 1) := by decide +kernel
theorem dX5_frayedIn_16 : decode cX5_frayedIn 16 = .ok (.iconst 1, 1) := by decide +kernel
theorem dX5_frayedIn_17 : decode cX5_frayedIn 17 = .ok (.invokevirtual 116, 3) := by decide +kernel
theorem dX5_frayedIn_20 : decode cX5_frayedIn 20 = .ok (.ireturn, 1) := by decide +kernel
theorem dX5_frayedIn_21 : decode cX5_frayedIn 21 = .ok (.aload_n 0, 1) := by decide +kernel
theorem dX5_frayedIn_22 : decode cX5_frayedIn 22 = .ok (.invokevirtual 170, 3) := by decide +kernel
theorem dX5_frayedIn_25 : decode cX5_frayedIn 25 = .ok (.aload_n 0, 1) := by decide +kernel
theorem dX5_frayedIn_26 : decode cX5_frayedIn 26 = .ok (.iload_n 1, 1) := by decide +kernel
theorem dX5_frayedIn_27 : decode cX5_frayedIn 27 = .ok (.invokevirtual 133, 3) := by decide +kernel
theorem dX5_frayedIn_30 : decode cX5_frayedIn 30 = .ok (.aload_n 0, 1) := by decide +kernel
theorem dX5_frayedIn_31 : decode cX5_frayedIn 31 = .ok (.iconst 0, 1) := by decide +kernel
theorem dX5_frayedIn_32 : decode cX5_frayedIn 32 = .ok (.invokevirtual 148, 3) := by decide +kernel
theorem dX5_frayedIn_35 : decode cX5_frayedIn 35 = .ok (.istore_n 2, 1) := by decide +kernel
theorem dX5_frayedIn_36 : decode cX5_frayedIn 36 = .ok (.aload_n 0, 1) := by decide +kernel
theorem dX5_frayedIn_37 : decode cX5_frayedIn 37 = .ok (.invokevirtual 173, 3) := by decide +kernel
theorem dX5_frayedIn_40 : decode cX5_frayedIn 40 = .ok (.iload_n 2, 1) := by decide +kernel
theorem dX5_frayedIn_41 : decode cX5_frayedIn 41 = .ok (.ireturn, 1) := by decide +kernel
theorem dX5_toMend_0 : decode cX5_toMend 0 = .ok (.aload_n 0, 1) := by decide +kernel
theorem dX5_toMend_1 : decode cX5_toMend 1 = .ok (.invokevirtual 170, 3) := by decide +kernel
theorem dX5_toMend_4 : decode cX5_toMend 4 = .ok (.aload_n 0, 1) := by decide +kernel
theorem dX5_toMend_5 : decode cX5_toMend 5 = .ok (.bipush 24, 2) := by decide +kernel
theorem dX5_toMend_7 : decode cX5_toMend 7 = .ok (.invokevirtual 133, 3) := by decide +kernel
theorem dX5_toMend_10 : decode cX5_toMend 10 = .ok (.aload_n 0, 1) := by decide +kernel
theorem dX5_toMend_11 : decode cX5_toMend 11 = .ok (.iconst 1, 1) := by decide +kernel
theorem dX5_toMend_12 : decode cX5_toMend 12 = .ok (.invokevirtual 148, 3) := by decide +kernel
theorem dX5_toMend_15 : decode cX5_toMend 15 = .ok (.istore_n 1, 1) := by decide +kernel
theorem dX5_toMend_16 : decode cX5_toMend 16 = .ok (.aload_n 0, 1) := by decide +kernel
theorem dX5_toMend_17 : decode cX5_toMend 17 = .ok (.invokevirtual 173, 3) := by decide +kernel
theorem dX5_toMend_20 : decode cX5_toMend 20 = .ok (.iconst (-1), 1) := by decide +kernel
theorem dX5_toMend_21 : decode cX5_toMend 21 = .ok (.istore_n 2, 1) := by decide +kernel
theorem dX5_toMend_22 : decode cX5_toMend 22 = .ok (.iconst 0, 1) := by decide +kernel
theorem dX5_toMend_23 : decode cX5_toMend 23 = .ok (.istore_n 3, 1) := by decide +kernel
theorem dX5_toMend_24 : decode cX5_toMend 24 = .ok (.iload_n 3, 1) := by decide +kernel
theorem dX5_toMend_25 : decode cX5_toMend 25 = .ok (.aload_n 0, 1) := by decide +kernel
theorem dX5_toMend_26 : decode cX5_toMend 26 = .ok (.getfield 51, 3) := by decide +kernel
theorem dX5_toMend_29 : decode cX5_toMend 29 = .ok (.if_icmp .ge 58, 3) := by decide +kernel
theorem dX5_toMend_32 : decode cX5_toMend 32 = .ok (.aload_n 0, 1) := by decide +kernel
theorem dX5_toMend_33 : decode cX5_toMend 33 = .ok (.iload_n 3, 1) := by decide +kernel
theorem dX5_toMend_34 : decode cX5_toMend 34 = .ok (.invokevirtual 70, 3) := by decide +kernel
theorem dX5_toMend_37 : decode cX5_toMend 37 = .ok (.ifCond .ne 6, 3) := by decide +kernel
theorem dX5_toMend_40 : decode cX5_toMend 40 = .ok (.goto 41, 3) := by decide +kernel
theorem dX5_toMend_43 : decode cX5_toMend 43 = .ok (.aload_n 0, 1) := by decide +kernel
theorem dX5_toMend_44 : decode cX5_toMend 44 = .ok (.iload_n 3, 1) := by decide +kernel
theorem dX5_toMend_45 : decode cX5_toMend 45 = .ok (.iconst 0, 1) := by decide +kernel
theorem dX5_toMend_46 : decode cX5_toMend 46 = .ok (.iconst 4, 1) := by decide +kernel
theorem dX5_toMend_47 : decode cX5_toMend 47 = .ok (.invokevirtual 90, 3) := by decide +kernel
theorem dX5_toMend_50 : decode cX5_toMend 50 = .ok (.aload_n 0, 1) := by decide +kernel
theorem dX5_toMend_51 : decode cX5_toMend 51 = .ok (.bipush 24, 2) := by decide +kernel
theorem dX5_toMend_53 : decode cX5_toMend 53 = .ok (.invokevirtual 133, 3) := by decide +kernel
theorem dX5_toMend_56 : decode cX5_toMend 56 = .ok (.aload_n 0, 1) := by decide +kernel
theorem dX5_toMend_57 : decode cX5_toMend 57 = .ok (.iconst 1, 1) := by decide +kernel
theorem dX5_toMend_58 : decode cX5_toMend 58 = .ok (.invokevirtual 148, 3) := by decide +kernel
theorem dX5_toMend_61 : decode cX5_toMend 61 = .ok (.istore 4, 2) := by decide +kernel
theorem dX5_toMend_63 : decode cX5_toMend 63 = .ok (.aload_n 0, 1) := by decide +kernel
theorem dX5_toMend_64 : decode cX5_toMend 64 = .ok (.invokevirtual 173, 3) := by decide +kernel
theorem dX5_toMend_67 : decode cX5_toMend 67 = .ok (.iload 4, 2) := by decide +kernel
theorem dX5_toMend_69 : decode cX5_toMend 69 = .ok (.iload_n 1, 1) := by decide +kernel
theorem dX5_toMend_70 : decode cX5_toMend 70 = .ok (.if_icmp .lt 6, 3) := by decide +kernel
theorem dX5_toMend_73 : decode cX5_toMend 73 = .ok (.goto 8, 3) := by decide +kernel
theorem dX5_toMend_76 : decode cX5_toMend 76 = .ok (.iload_n 3, 1) := by decide +kernel
theorem dX5_toMend_77 : decode cX5_toMend 77 = .ok (.istore_n 2, 1) := by decide +kernel
theorem dX5_toMend_78 : decode cX5_toMend 78 = .ok (.iload 4, 2) := by decide +kernel
theorem dX5_toMend_80 : decode cX5_toMend 80 = .ok (.istore_n 1, 1) := by decide +kernel
theorem dX5_toMend_81 : decode cX5_toMend 81 = .ok (.iinc 3 1, 3) := by decide +kernel
theorem dX5_toMend_84 : decode cX5_toMend 84 = .ok (.goto (-60), 3) := by decide +kernel
theorem dX5_toMend_87 : decode cX5_toMend 87 = .ok (.iload_n 2, 1) := by decide +kernel
theorem dX5_toMend_88 : decode cX5_toMend 88 = .ok (.ireturn, 1) := by decide +kernel
theorem dX5_bestToMend_0 : decode cX5_bestToMend 0 = .ok (.aload_n 0, 1) := by decide +kernel
theorem dX5_bestToMend_1 : decode cX5_bestToMend 1 = .ok (.aload_n 0, 1) := by decide +kernel
theorem dX5_bestToMend_2 : decode cX5_bestToMend 2 = .ok (.invokevirtual 179, 3) := by decide +kernel
theorem dX5_bestToMend_5 : decode cX5_bestToMend 5 = .ok (.invokevirtual 136, 3) := by decide +kernel
theorem dX5_bestToMend_8 : decode cX5_bestToMend 8 = .ok (.ireturn, 1) := by decide +kernel
theorem dX5_meanLength_0 : decode cX5_meanLength 0 = .ok (.aload_n 0, 1) := by decide +kernel
theorem dX5_meanLength_1 : decode cX5_meanLength 1 = .ok (.iconst 0, 1) := by decide +kernel
theorem dX5_meanLength_2 : decode cX5_meanLength 2 = .ok (.putfield 40, 3) := by decide +kernel
theorem dX5_meanLength_5 : decode cX5_meanLength 5 = .ok (.iconst 0, 1) := by decide +kernel
theorem dX5_meanLength_6 : decode cX5_meanLength 6 = .ok (.istore_n 1, 1) := by decide +kernel
theorem dX5_meanLength_7 : decode cX5_meanLength 7 = .ok (.iconst 0, 1) := by decide +kernel
theorem dX5_meanLength_8 : decode cX5_meanLength 8 = .ok (.istore_n 2, 1) := by decide +kernel
theorem dX5_meanLength_9 : decode cX5_meanLength 9 = .ok (.iload_n 2, 1) := by decide +kernel
theorem dX5_meanLength_10 : decode cX5_meanLength 10 = .ok (.aload_n 0, 1) := by decide +kernel
theorem dX5_meanLength_11 : decode cX5_meanLength 11 = .ok (.getfield 51, 3) := by decide +kernel
theorem dX5_meanLength_14 : decode cX5_meanLength 14 = .ok (.if_icmp .ge 17, 3) := by decide +kernel
theorem dX5_meanLength_17 : decode cX5_meanLength 17 = .ok (.iload_n 1, 1) := by decide +kernel
theorem dX5_meanLength_18 : decode cX5_meanLength 18 = .ok (.aload_n 0, 1) := by decide +kernel
theorem dX5_meanLength_19 : decode cX5_meanLength 19 = .ok (.iload_n 2, 1) := by decide +kernel
theorem dX5_meanLength_20 : decode cX5_meanLength 20 = .ok (.invokevirtual 74, 3) := by decide +kernel
theorem dX5_meanLength_23 : decode cX5_meanLength 23 = .ok (.iadd, 1) := by decide +kernel
theorem dX5_meanLength_24 : decode cX5_meanLength 24 = .ok (.istore_n 1, 1) := by decide +kernel
theorem dX5_meanLength_25 : decode cX5_meanLength 25 = .ok (.iinc 2 1, 3) := by decide +kernel
theorem dX5_meanLength_28 : decode cX5_meanLength 28 = .ok (.goto (-19), 3) := by decide +kernel
theorem dX5_meanLength_31 : decode cX5_meanLength 31 = .ok (.aload_n 0, 1) := by decide +kernel
theorem dX5_meanLength_32 : decode cX5_meanLength 32 = .ok (.getfield 51, 3) := by decide +kernel
theorem dX5_meanLength_35 : decode cX5_meanLength 35 = .ok (.ifCond .ne 7, 3) := by decide +kernel
theorem dX5_meanLength_38 : decode cX5_meanLength 38 = .ok (.dconst 0, 1) := by decide +kernel
theorem dX5_meanLength_39 : decode cX5_meanLength 39 = .ok (.goto 11, 3) := by decide +kernel
theorem dX5_meanLength_42 : decode cX5_meanLength 42 = .ok (.iload_n 1, 1) := by decide +kernel
theorem dX5_meanLength_43 : decode cX5_meanLength 43 = .ok (.i2d, 1) := by decide +kernel
theorem dX5_meanLength_44 : decode cX5_meanLength 44 = .ok (.aload_n 0, 1) := by decide +kernel
theorem dX5_meanLength_45 : decode cX5_meanLength 45 = .ok (.getfield 51, 3) := by decide +kernel
theorem dX5_meanLength_48 : decode cX5_meanLength 48 = .ok (.i2d, 1) := by decide +kernel
theorem dX5_meanLength_49 : decode cX5_meanLength 49 = .ok (.ddiv, 1) := by decide +kernel
theorem dX5_meanLength_50 : decode cX5_meanLength 50 = .ok (.dreturn, 1) := by decide +kernel
theorem dX5_digest_0 : decode cX5_digest 0 = .ok (.aload_n 0, 1) := by decide +kernel
theorem dX5_digest_1 : decode cX5_digest 1 = .ok (.iconst 0, 1) := by decide +kernel
theorem dX5_digest_2 : decode cX5_digest 2 = .ok (.putfield 40, 3) := by decide +kernel
theorem dX5_digest_5 : decode cX5_digest 5 = .ok (.bipush 10, 2) := by decide +kernel
theorem dX5_digest_7 : decode cX5_digest 7 = .ok (.newarray .int, 2) := by decide +kernel
theorem dX5_digest_9 : decode cX5_digest 9 = .ok (.dup, 1) := by decide +kernel
theorem dX5_digest_10 : decode cX5_digest 10 = .ok (.iconst 0, 1) := by decide +kernel
theorem dX5_digest_11 : decode cX5_digest 11 = .ok (.aload_n 0, 1) := by decide +kernel
theorem dX5_digest_12 : decode cX5_digest 12 = .ok (.getfield 31, 3) := by decide +kernel
theorem dX5_digest_15 : decode cX5_digest 15 = .ok (.iconst 0, 1) := by decide +kernel
theorem dX5_digest_16 : decode cX5_digest 16 = .ok (.iaload, 1) := by decide +kernel
theorem dX5_digest_17 : decode cX5_digest 17 = .ok (.iastore, 1) := by decide +kernel
theorem dX5_digest_18 : decode cX5_digest 18 = .ok (.dup, 1) := by decide +kernel
theorem dX5_digest_19 : decode cX5_digest 19 = .ok (.iconst 1, 1) := by decide +kernel
theorem dX5_digest_20 : decode cX5_digest 20 = .ok (.aload_n 0, 1) := by decide +kernel
theorem dX5_digest_21 : decode cX5_digest 21 = .ok (.getfield 44, 3) := by decide +kernel
theorem dX5_digest_24 : decode cX5_digest 24 = .ok (.iastore, 1) := by decide +kernel
theorem dX5_digest_25 : decode cX5_digest 25 = .ok (.dup, 1) := by decide +kernel
theorem dX5_digest_26 : decode cX5_digest 26 = .ok (.iconst 2, 1) := by decide +kernel
theorem dX5_digest_27 : decode cX5_digest 27 = .ok (.aload_n 0, 1) := by decide +kernel
theorem dX5_digest_28 : decode cX5_digest 28 = .ok (.getfield 51, 3) := by decide +kernel
theorem dX5_digest_31 : decode cX5_digest 31 = .ok (.iastore, 1) := by decide +kernel
theorem dX5_digest_32 : decode cX5_digest 32 = .ok (.dup, 1) := by decide +kernel
theorem dX5_digest_33 : decode cX5_digest 33 = .ok (.iconst 3, 1) := by decide +kernel
theorem dX5_digest_34 : decode cX5_digest 34 = .ok (.aload_n 0, 1) := by decide +kernel
theorem dX5_digest_35 : decode cX5_digest 35 = .ok (.getfield 54, 3) := by decide +kernel
theorem dX5_digest_38 : decode cX5_digest 38 = .ok (.iastore, 1) := by decide +kernel
theorem dX5_digest_39 : decode cX5_digest 39 = .ok (.dup, 1) := by decide +kernel
theorem dX5_digest_40 : decode cX5_digest 40 = .ok (.iconst 4, 1) := by decide +kernel
theorem dX5_digest_41 : decode cX5_digest 41 = .ok (.aload_n 0, 1) := by decide +kernel
theorem dX5_digest_42 : decode cX5_digest 42 = .ok (.invokevirtual 129, 3) := by decide +kernel
theorem dX5_digest_45 : decode cX5_digest 45 = .ok (.iastore, 1) := by decide +kernel
theorem dX5_digest_46 : decode cX5_digest 46 = .ok (.dup, 1) := by decide +kernel
theorem dX5_digest_47 : decode cX5_digest 47 = .ok (.iconst 5, 1) := by decide +kernel
theorem dX5_digest_48 : decode cX5_digest 48 = .ok (.aload_n 0, 1) := by decide +kernel
theorem dX5_digest_49 : decode cX5_digest 49 = .ok (.invokevirtual 139, 3) := by decide +kernel
theorem dX5_digest_52 : decode cX5_digest 52 = .ok (.iastore, 1) := by decide +kernel
theorem dX5_digest_53 : decode cX5_digest 53 = .ok (.dup, 1) := by decide +kernel
theorem dX5_digest_54 : decode cX5_digest 54 = .ok (.bipush 6, 2) := by decide +kernel
theorem dX5_digest_56 : decode cX5_digest 56 = .ok (.aload_n 0, 1) := by decide +kernel
theorem dX5_digest_57 : decode cX5_digest 57 = .ok (.iconst 0, 1) := by decide +kernel
theorem dX5_digest_58 : decode cX5_digest 58 = .ok (.invokevirtual 148, 3) := by decide +kernel
theorem dX5_digest_61 : decode cX5_digest 61 = .ok (.iastore, 1) := by decide +kernel
theorem dX5_digest_62 : decode cX5_digest 62 = .ok (.dup, 1) := by decide +kernel
theorem dX5_digest_63 : decode cX5_digest 63 = .ok (.bipush 7, 2) := by decide +kernel
theorem dX5_digest_65 : decode cX5_digest 65 = .ok (.aload_n 0, 1) := by decide +kernel
theorem dX5_digest_66 : decode cX5_digest 66 = .ok (.invokevirtual 155, 3) := by decide +kernel
theorem dX5_digest_69 : decode cX5_digest 69 = .ok (.iastore, 1) := by decide +kernel
theorem dX5_digest_70 : decode cX5_digest 70 = .ok (.dup, 1) := by decide +kernel
theorem dX5_digest_71 : decode cX5_digest 71 = .ok (.bipush 8, 2) := by decide +kernel
theorem dX5_digest_73 : decode cX5_digest 73 = .ok (.aload_n 0, 1) := by decide +kernel
theorem dX5_digest_74 : decode cX5_digest 74 = .ok (.invokevirtual 161, 3) := by decide +kernel
theorem dX5_digest_77 : decode cX5_digest 77 = .ok (.iastore, 1) := by decide +kernel
theorem dX5_digest_78 : decode cX5_digest 78 = .ok (.dup, 1) := by decide +kernel
theorem dX5_digest_79 : decode cX5_digest 79 = .ok (.bipush 9, 2) := by decide +kernel
theorem dX5_digest_81 : decode cX5_digest 81 = .ok (.aload_n 0, 1) := by decide +kernel
theorem dX5_digest_82 : decode cX5_digest 82 = .ok (.invokevirtual 179, 3) := by decide +kernel
theorem dX5_digest_85 : decode cX5_digest 85 = .ok (.iastore, 1) := by decide +kernel
theorem dX5_digest_86 : decode cX5_digest 86 = .ok (.astore_n 1, 1) := by decide +kernel
theorem dX5_digest_87 : decode cX5_digest 87 = .ok (.ldc2_w 182, 3) := by decide +kernel
theorem dX5_digest_90 : decode cX5_digest 90 = .ok (.lstore_n 2, 1) := by decide +kernel
theorem dX5_digest_91 : decode cX5_digest 91 = .ok (.aload_n 1, 1) := by decide +kernel
theorem dX5_digest_92 : decode cX5_digest 92 = .ok (.astore 4, 2) := by decide +kernel
theorem dX5_digest_94 : decode cX5_digest 94 = .ok (.aload 4, 2) := by decide +kernel
theorem dX5_digest_96 : decode cX5_digest 96 = .ok (.arraylength, 1) := by decide +kernel
theorem dX5_digest_97 : decode cX5_digest 97 = .ok (.istore 5, 2) := by decide +kernel
theorem dX5_digest_99 : decode cX5_digest 99 = .ok (.iconst 0, 1) := by decide +kernel
theorem dX5_digest_100 : decode cX5_digest 100 = .ok (.istore 6, 2) := by decide +kernel
theorem dX5_digest_102 : decode cX5_digest 102 = .ok (.iload 6, 2) := by decide +kernel
theorem dX5_digest_104 : decode cX5_digest 104 = .ok (.iload 5, 2) := by decide +kernel
theorem dX5_digest_106 : decode cX5_digest 106 = .ok (.if_icmp .ge 26, 3) := by decide +kernel
theorem dX5_digest_109 : decode cX5_digest 109 = .ok (.aload 4, 2) := by decide +kernel
theorem dX5_digest_111 : decode cX5_digest 111 = .ok (.iload 6, 2) := by decide +kernel
theorem dX5_digest_113 : decode cX5_digest 113 = .ok (.iaload, 1) := by decide +kernel
theorem dX5_digest_114 : decode cX5_digest 114 = .ok (.istore 7, 2) := by decide +kernel
theorem dX5_digest_116 : decode cX5_digest 116 = .ok (.lload_n 2, 1) := by decide +kernel
theorem dX5_digest_117 : decode cX5_digest 117 = .ok (.ldc2_w 184, 3) := by decide +kernel
theorem dX5_digest_120 : decode cX5_digest 120 = .ok (.lmul, 1) := by decide +kernel
theorem dX5_digest_121 : decode cX5_digest 121 = .ok (.iload 7, 2) := by decide +kernel
theorem dX5_digest_123 : decode cX5_digest 123 = .ok (.i2l, 1) := by decide +kernel
theorem dX5_digest_124 : decode cX5_digest 124 = .ok (.ladd, 1) := by decide +kernel
theorem dX5_digest_125 : decode cX5_digest 125 = .ok (.lstore_n 2, 1) := by decide +kernel
theorem dX5_digest_126 : decode cX5_digest 126 = .ok (.iinc 6 1, 3) := by decide +kernel
theorem dX5_digest_129 : decode cX5_digest 129 = .ok (.goto (-27), 3) := by decide +kernel
theorem dX5_digest_132 : decode cX5_digest 132 = .ok (.iconst 0, 1) := by decide +kernel
theorem dX5_digest_133 : decode cX5_digest 133 = .ok (.istore 4, 2) := by decide +kernel
theorem dX5_digest_135 : decode cX5_digest 135 = .ok (.iload 4, 2) := by decide +kernel
theorem dX5_digest_137 : decode cX5_digest 137 = .ok (.aload_n 0, 1) := by decide +kernel
theorem dX5_digest_138 : decode cX5_digest 138 = .ok (.getfield 51, 3) := by decide +kernel
theorem dX5_digest_141 : decode cX5_digest 141 = .ok (.if_icmp .ge 104, 3) := by decide +kernel
theorem dX5_digest_144 : decode cX5_digest 144 = .ok (.iconst 5, 1) := by decide +kernel
theorem dX5_digest_145 : decode cX5_digest 145 = .ok (.newarray .int, 2) := by decide +kernel
theorem dX5_digest_147 : decode cX5_digest 147 = .ok (.dup, 1) := by decide +kernel
theorem dX5_digest_148 : decode cX5_digest 148 = .ok (.iconst 0, 1) := by decide +kernel
theorem dX5_digest_149 : decode cX5_digest 149 = .ok (.aload_n 0, 1) := by decide +kernel
theorem dX5_digest_150 : decode cX5_digest 150 = .ok (.iload 4, 2) := by decide +kernel
theorem dX5_digest_152 : decode cX5_digest 152 = .ok (.invokevirtual 74, 3) := by decide +kernel
theorem dX5_digest_155 : decode cX5_digest 155 = .ok (.iastore, 1) := by decide +kernel
theorem dX5_digest_156 : decode cX5_digest 156 = .ok (.dup, 1) := by decide +kernel
theorem dX5_digest_157 : decode cX5_digest 157 = .ok (.iconst 1, 1) := by decide +kernel
theorem dX5_digest_158 : decode cX5_digest 158 = .ok (.aload_n 0, 1) := by decide +kernel
theorem dX5_digest_159 : decode cX5_digest 159 = .ok (.iload 4, 2) := by decide +kernel
theorem dX5_digest_161 : decode cX5_digest 161 = .ok (.iconst 1, 1) := by decide +kernel
theorem dX5_digest_162 : decode cX5_digest 162 = .ok (.invokevirtual 63, 3) := by decide +kernel
theorem dX5_digest_165 : decode cX5_digest 165 = .ok (.iastore, 1) := by decide +kernel
theorem dX5_digest_166 : decode cX5_digest 166 = .ok (.dup, 1) := by decide +kernel
theorem dX5_digest_167 : decode cX5_digest 167 = .ok (.iconst 2, 1) := by decide +kernel
theorem dX5_digest_168 : decode cX5_digest 168 = .ok (.aload_n 0, 1) := by decide +kernel
theorem dX5_digest_169 : decode cX5_digest 169 = .ok (.iload 4, 2) := by decide +kernel
theorem dX5_digest_171 : decode cX5_digest 171 = .ok (.iconst 2, 1) := by decide +kernel
theorem dX5_digest_172 : decode cX5_digest 172 = .ok (.invokevirtual 63, 3) := by decide +kernel
theorem dX5_digest_175 : decode cX5_digest 175 = .ok (.iastore, 1) := by decide +kernel
theorem dX5_digest_176 : decode cX5_digest 176 = .ok (.dup, 1) := by decide +kernel
theorem dX5_digest_177 : decode cX5_digest 177 = .ok (.iconst 3, 1) := by decide +kernel
theorem dX5_digest_178 : decode cX5_digest 178 = .ok (.aload_n 0, 1) := by decide +kernel
theorem dX5_digest_179 : decode cX5_digest 179 = .ok (.iload 4, 2) := by decide +kernel
theorem dX5_digest_181 : decode cX5_digest 181 = .ok (.iconst 0, 1) := by decide +kernel
theorem dX5_digest_182 : decode cX5_digest 182 = .ok (.invokevirtual 63, 3) := by decide +kernel
theorem dX5_digest_185 : decode cX5_digest 185 = .ok (.iastore, 1) := by decide +kernel
theorem dX5_digest_186 : decode cX5_digest 186 = .ok (.dup, 1) := by decide +kernel
theorem dX5_digest_187 : decode cX5_digest 187 = .ok (.iconst 4, 1) := by decide +kernel
theorem dX5_digest_188 : decode cX5_digest 188 = .ok (.aload_n 0, 1) := by decide +kernel
theorem dX5_digest_189 : decode cX5_digest 189 = .ok (.iload 4, 2) := by decide +kernel
theorem dX5_digest_191 : decode cX5_digest 191 = .ok (.invokevirtual 110, 3) := by decide +kernel
theorem dX5_digest_194 : decode cX5_digest 194 = .ok (.iastore, 1) := by decide +kernel
theorem dX5_digest_195 : decode cX5_digest 195 = .ok (.astore 5, 2) := by decide +kernel
theorem dX5_digest_197 : decode cX5_digest 197 = .ok (.aload 5, 2) := by decide +kernel
theorem dX5_digest_199 : decode cX5_digest 199 = .ok (.astore 6, 2) := by decide +kernel
theorem dX5_digest_201 : decode cX5_digest 201 = .ok (.aload 6, 2) := by decide +kernel
theorem dX5_digest_203 : decode cX5_digest 203 = .ok (.arraylength, 1) := by decide +kernel
theorem dX5_digest_204 : decode cX5_digest 204 = .ok (.istore 7, 2) := by decide +kernel
theorem dX5_digest_206 : decode cX5_digest 206 = .ok (.iconst 0, 1) := by decide +kernel
theorem dX5_digest_207 : decode cX5_digest 207 = .ok (.istore 8, 2) := by decide +kernel
theorem dX5_digest_209 : decode cX5_digest 209 = .ok (.iload 8, 2) := by decide +kernel
theorem dX5_digest_211 : decode cX5_digest 211 = .ok (.iload 7, 2) := by decide +kernel
theorem dX5_digest_213 : decode cX5_digest 213 = .ok (.if_icmp .ge 26, 3) := by decide +kernel
theorem dX5_digest_216 : decode cX5_digest 216 = .ok (.aload 6, 2) := by decide +kernel
theorem dX5_digest_218 : decode cX5_digest 218 = .ok (.iload 8, 2) := by decide +kernel
theorem dX5_digest_220 : decode cX5_digest 220 = .ok (.iaload, 1) := by decide +kernel
theorem dX5_digest_221 : decode cX5_digest 221 = .ok (.istore 9, 2) := by decide +kernel
theorem dX5_digest_223 : decode cX5_digest 223 = .ok (.lload_n 2, 1) := by decide +kernel
theorem dX5_digest_224 : decode cX5_digest 224 = .ok (.ldc2_w 184, 3) := by decide +kernel
theorem dX5_digest_227 : decode cX5_digest 227 = .ok (.lmul, 1) := by decide +kernel
theorem dX5_digest_228 : decode cX5_digest 228 = .ok (.iload 9, 2) := by decide +kernel
theorem dX5_digest_230 : decode cX5_digest 230 = .ok (.i2l, 1) := by decide +kernel
theorem dX5_digest_231 : decode cX5_digest 231 = .ok (.ladd, 1) := by decide +kernel
theorem dX5_digest_232 : decode cX5_digest 232 = .ok (.lstore_n 2, 1) := by decide +kernel
theorem dX5_digest_233 : decode cX5_digest 233 = .ok (.iinc 8 1, 3) := by decide +kernel
theorem dX5_digest_236 : decode cX5_digest 236 = .ok (.goto (-27), 3) := by decide +kernel
theorem dX5_digest_239 : decode cX5_digest 239 = .ok (.iinc 4 1, 3) := by decide +kernel
theorem dX5_digest_242 : decode cX5_digest 242 = .ok (.goto (-107), 3) := by decide +kernel
theorem dX5_digest_245 : decode cX5_digest 245 = .ok (.iconst 0, 1) := by decide +kernel
theorem dX5_digest_246 : decode cX5_digest 246 = .ok (.istore 4, 2) := by decide +kernel
theorem dX5_digest_248 : decode cX5_digest 248 = .ok (.iload 4, 2) := by decide +kernel
theorem dX5_digest_250 : decode cX5_digest 250 = .ok (.aload_n 0, 1) := by decide +kernel
theorem dX5_digest_251 : decode cX5_digest 251 = .ok (.getfield 54, 3) := by decide +kernel
theorem dX5_digest_254 : decode cX5_digest 254 = .ok (.if_icmp .ge 124, 3) := by decide +kernel
theorem dX5_digest_257 : decode cX5_digest 257 = .ok (.bipush 6, 2) := by decide +kernel
theorem dX5_digest_259 : decode cX5_digest 259 = .ok (.newarray .int, 2) := by decide +kernel
theorem dX5_digest_261 : decode cX5_digest 261 = .ok (.dup, 1) := by decide +kernel
theorem dX5_digest_262 : decode cX5_digest 262 = .ok (.iconst 0, 1) := by decide +kernel
theorem dX5_digest_263 : decode cX5_digest 263 = .ok (.aload_n 0, 1) := by decide +kernel
theorem dX5_digest_264 : decode cX5_digest 264 = .ok (.iload 4, 2) := by decide +kernel
theorem dX5_digest_266 : decode cX5_digest 266 = .ok (.iconst 0, 1) := by decide +kernel
theorem dX5_digest_267 : decode cX5_digest 267 = .ok (.invokevirtual 67, 3) := by decide +kernel
theorem dX5_digest_270 : decode cX5_digest 270 = .ok (.iastore, 1) := by decide +kernel
theorem dX5_digest_271 : decode cX5_digest 271 = .ok (.dup, 1) := by decide +kernel
theorem dX5_digest_272 : decode cX5_digest 272 = .ok (.iconst 1, 1) := by decide +kernel
theorem dX5_digest_273 : decode cX5_digest 273 = .ok (.aload_n 0, 1) := by decide +kernel
theorem dX5_digest_274 : decode cX5_digest 274 = .ok (.iload 4, 2) := by decide +kernel
theorem dX5_digest_276 : decode cX5_digest 276 = .ok (.iconst 1, 1) := by decide +kernel
theorem dX5_digest_277 : decode cX5_digest 277 = .ok (.invokevirtual 67, 3) := by decide +kernel
theorem dX5_digest_280 : decode cX5_digest 280 = .ok (.iastore, 1) := by decide +kernel
theorem dX5_digest_281 : decode cX5_digest 281 = .ok (.dup, 1) := by decide +kernel
theorem dX5_digest_282 : decode cX5_digest 282 = .ok (.iconst 2, 1) := by decide +kernel
theorem dX5_digest_283 : decode cX5_digest 283 = .ok (.aload_n 0, 1) := by decide +kernel
theorem dX5_digest_284 : decode cX5_digest 284 = .ok (.iload 4, 2) := by decide +kernel
theorem dX5_digest_286 : decode cX5_digest 286 = .ok (.iconst 3, 1) := by decide +kernel
theorem dX5_digest_287 : decode cX5_digest 287 = .ok (.invokevirtual 67, 3) := by decide +kernel
theorem dX5_digest_290 : decode cX5_digest 290 = .ok (.iastore, 1) := by decide +kernel
theorem dX5_digest_291 : decode cX5_digest 291 = .ok (.dup, 1) := by decide +kernel
theorem dX5_digest_292 : decode cX5_digest 292 = .ok (.iconst 3, 1) := by decide +kernel
theorem dX5_digest_293 : decode cX5_digest 293 = .ok (.aload_n 0, 1) := by decide +kernel
theorem dX5_digest_294 : decode cX5_digest 294 = .ok (.iload 4, 2) := by decide +kernel
theorem dX5_digest_296 : decode cX5_digest 296 = .ok (.invokevirtual 145, 3) := by decide +kernel
theorem dX5_digest_299 : decode cX5_digest 299 = .ok (.iastore, 1) := by decide +kernel
theorem dX5_digest_300 : decode cX5_digest 300 = .ok (.dup, 1) := by decide +kernel
theorem dX5_digest_301 : decode cX5_digest 301 = .ok (.iconst 4, 1) := by decide +kernel
theorem dX5_digest_302 : decode cX5_digest 302 = .ok (.aload_n 0, 1) := by decide +kernel
theorem dX5_digest_303 : decode cX5_digest 303 = .ok (.iload 4, 2) := by decide +kernel
theorem dX5_digest_305 : decode cX5_digest 305 = .ok (.iconst 4, 1) := by decide +kernel
theorem dX5_digest_306 : decode cX5_digest 306 = .ok (.invokevirtual 67, 3) := by decide +kernel
theorem dX5_digest_309 : decode cX5_digest 309 = .ok (.iconst (-1), 1) := by decide +kernel
theorem dX5_digest_310 : decode cX5_digest 310 = .ok (.if_icmp .ne 7, 3) := by decide +kernel
theorem dX5_digest_313 : decode cX5_digest 313 = .ok (.iconst 0, 1) := by decide +kernel
theorem dX5_digest_314 : decode cX5_digest 314 = .ok (.goto 4, 3) := by decide +kernel
theorem dX5_digest_317 : decode cX5_digest 317 = .ok (.iconst 1, 1) := by decide +kernel
theorem dX5_digest_318 : decode cX5_digest 318 = .ok (.iastore, 1) := by decide +kernel
theorem dX5_digest_319 : decode cX5_digest 319 = .ok (.dup, 1) := by decide +kernel
theorem dX5_digest_320 : decode cX5_digest 320 = .ok (.iconst 5, 1) := by decide +kernel
theorem dX5_digest_321 : decode cX5_digest 321 = .ok (.aload_n 0, 1) := by decide +kernel
theorem dX5_digest_322 : decode cX5_digest 322 = .ok (.iload 4, 2) := by decide +kernel
theorem dX5_digest_324 : decode cX5_digest 324 = .ok (.invokevirtual 176, 3) := by decide +kernel
theorem dX5_digest_327 : decode cX5_digest 327 = .ok (.iastore, 1) := by decide +kernel
theorem dX5_digest_328 : decode cX5_digest 328 = .ok (.astore 5, 2) := by decide +kernel
theorem dX5_digest_330 : decode cX5_digest 330 = .ok (.aload 5, 2) := by decide +kernel
theorem dX5_digest_332 : decode cX5_digest 332 = .ok (.astore 6, 2) := by decide +kernel
theorem dX5_digest_334 : decode cX5_digest 334 = .ok (.aload 6, 2) := by decide +kernel
theorem dX5_digest_336 : decode cX5_digest 336 = .ok (.arraylength, 1) := by decide +kernel
theorem dX5_digest_337 : decode cX5_digest 337 = .ok (.istore 7, 2) := by decide +kernel
theorem dX5_digest_339 : decode cX5_digest 339 = .ok (.iconst 0, 1) := by decide +kernel
theorem dX5_digest_340 : decode cX5_digest 340 = .ok (.istore 8, 2) := by decide +kernel
theorem dX5_digest_342 : decode cX5_digest 342 = .ok (.iload 8, 2) := by decide +kernel
theorem dX5_digest_344 : decode cX5_digest 344 = .ok (.iload 7, 2) := by decide +kernel
theorem dX5_digest_346 : decode cX5_digest 346 = .ok (.if_icmp .ge 26, 3) := by decide +kernel
theorem dX5_digest_349 : decode cX5_digest 349 = .ok (.aload 6, 2) := by decide +kernel
theorem dX5_digest_351 : decode cX5_digest 351 = .ok (.iload 8, 2) := by decide +kernel
theorem dX5_digest_353 : decode cX5_digest 353 = .ok (.iaload, 1) := by decide +kernel
theorem dX5_digest_354 : decode cX5_digest 354 = .ok (.istore 9, 2) := by decide +kernel
theorem dX5_digest_356 : decode cX5_digest 356 = .ok (.lload_n 2, 1) := by decide +kernel
theorem dX5_digest_357 : decode cX5_digest 357 = .ok (.ldc2_w 184, 3) := by decide +kernel
theorem dX5_digest_360 : decode cX5_digest 360 = .ok (.lmul, 1) := by decide +kernel
theorem dX5_digest_361 : decode cX5_digest 361 = .ok (.iload 9, 2) := by decide +kernel
theorem dX5_digest_363 : decode cX5_digest 363 = .ok (.i2l, 1) := by decide +kernel
theorem dX5_digest_364 : decode cX5_digest 364 = .ok (.ladd, 1) := by decide +kernel
theorem dX5_digest_365 : decode cX5_digest 365 = .ok (.lstore_n 2, 1) := by decide +kernel
theorem dX5_digest_366 : decode cX5_digest 366 = .ok (.iinc 8 1, 3) := by decide +kernel
theorem dX5_digest_369 : decode cX5_digest 369 = .ok (.goto (-27), 3) := by decide +kernel
theorem dX5_digest_372 : decode cX5_digest 372 = .ok (.iinc 4 1, 3) := by decide +kernel
theorem dX5_digest_375 : decode cX5_digest 375 = .ok (.goto (-127), 3) := by decide +kernel
theorem dX5_digest_378 : decode cX5_digest 378 = .ok (.lload_n 2, 1) := by decide +kernel
theorem dX5_digest_379 : decode cX5_digest 379 = .ok (.lreturn, 1) := by decide +kernel
