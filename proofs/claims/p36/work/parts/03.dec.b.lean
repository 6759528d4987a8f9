theorem dX2_clear_9 : decode cX2_clear 9 = .ok (.istore_n 2, 1) := by decide +kernel
theorem dX2_clear_10 : decode cX2_clear 10 = .ok (.iload_n 2, 1) := by decide +kernel
theorem dX2_clear_11 : decode cX2_clear 11 = .ok (.bipush 10, 2) := by decide +kernel
theorem dX2_clear_13 : decode cX2_clear 13 = .ok (.if_icmp .ge 31, 3) := by decide +kernel
theorem dX2_clear_16 : decode cX2_clear 16 = .ok (.aload_n 0, 1) := by decide +kernel
theorem dX2_clear_17 : decode cX2_clear 17 = .ok (.getfield 9, 3) := by decide +kernel
theorem dX2_clear_20 : decode cX2_clear 20 = .ok (.iload_n 1, 1) := by decide +kernel
theorem dX2_clear_21 : decode cX2_clear 21 = .ok (.bipush 10, 2) := by decide +kernel
theorem dX2_clear_23 : decode cX2_clear 23 = .ok (.imul, 1) := by decide +kernel
theorem dX2_clear_24 : decode cX2_clear 24 = .ok (.iload_n 2, 1) := by decide +kernel
theorem dX2_clear_25 : decode cX2_clear 25 = .ok (.iadd, 1) := by decide +kernel
theorem dX2_clear_26 : decode cX2_clear 26 = .ok (.iload_n 1, 1) := by decide +kernel
theorem dX2_clear_27 : decode cX2_clear 27 = .ok (.iload_n 2, 1) := by decide +kernel
theorem dX2_clear_28 : decode cX2_clear 28 = .ok (.if_icmp .ne 7, 3) := by decide +kernel
theorem dX2_clear_31 : decode cX2_clear 31 = .ok (.iconst 0, 1) := by decide +kernel
theorem dX2_clear_32 : decode cX2_clear 32 = .ok (.goto 5, 3) := by decide +kernel
theorem dX2_clear_35 : decode cX2_clear 35 = .ok (.ldc 47, 2) := by decide +kernel
theorem dX2_clear_37 : decode cX2_clear 37 = .ok (.iastore, 1) := by decide +kernel
theorem dX2_clear_38 : decode cX2_clear 38 = .ok (.iinc 2 1, 3) := by decide +kernel
theorem dX2_clear_41 : decode cX2_clear 41 = .ok (.goto (-31), 3) := by decide +kernel
theorem dX2_clear_44 : decode cX2_clear 44 = .ok (.iinc 1 1, 3) := by decide +kernel
theorem dX2_clear_47 : decode cX2_clear 47 = .ok (.goto (-45), 3) := by decide +kernel
theorem dX2_clear_50 : decode cX2_clear 50 = .ok (.return_, 1) := by decide +kernel
theorem dX2_goOver_0 : decode cX2_goOver 0 = .ok (.iconst 1, 1) := by decide +kernel
theorem dX2_goOver_1 : decode cX2_goOver 1 = .ok (.istore_n 3, 1) := by decide +kernel
theorem dX2_goOver_2 : decode cX2_goOver 2 = .ok (.iload_n 3, 1) := by decide +kernel
theorem dX2_goOver_3 : decode cX2_goOver 3 = .ok (.iload_n 2, 1) := by decide +kernel
theorem dX2_goOver_4 : decode cX2_goOver 4 = .ok (.if_icmp .ge 106, 3) := by decide +kernel
theorem dX2_goOver_7 : decode cX2_goOver 7 = .ok (.aload_n 0, 1) := by decide +kernel
theorem dX2_goOver_8 : decode cX2_goOver 8 = .ok (.getfield 9, 3) := by decide +kernel
theorem dX2_goOver_11 : decode cX2_goOver 11 = .ok (.iload_n 3, 1) := by decide +kernel
theorem dX2_goOver_12 : decode cX2_goOver 12 = .ok (.bipush 10, 2) := by decide +kernel
theorem dX2_goOver_14 : decode cX2_goOver 14 = .ok (.imul, 1) := by decide +kernel
theorem dX2_goOver_15 : decode cX2_goOver 15 = .ok (.iload_n 1, 1) := by decide +kernel
theorem dX2_goOver_16 : decode cX2_goOver 16 = .ok (.iadd, 1) := by decide +kernel
theorem dX2_goOver_17 : decode cX2_goOver 17 = .ok (.iaload, 1) := by decide +kernel
theorem dX2_goOver_18 : decode cX2_goOver 18 = .ok (.istore 4, 2) := by decide +kernel
theorem dX2_goOver_20 : decode cX2_goOver 20 = .ok (.iconst 0, 1) := by decide +kernel
theorem dX2_goOver_21 : decode cX2_goOver 21 = .ok (.istore 5, 2) := by decide +kernel
theorem dX2_goOver_23 : decode cX2_goOver 23 = .ok (.iload 4, 2) := by decide +kernel
theorem dX2_goOver_25 : decode cX2_goOver 25 = .ok (.ldc 47, 2) := by decide +kernel
theorem dX2_goOver_27 : decode cX2_goOver 27 = .ok (.if_icmp .ge 77, 3) := by decide +kernel
theorem dX2_goOver_30 : decode cX2_goOver 30 = .ok (.iload 5, 2) := by decide +kernel
theorem dX2_goOver_32 : decode cX2_goOver 32 = .ok (.iload_n 3, 1) := by decide +kernel
theorem dX2_goOver_33 : decode cX2_goOver 33 = .ok (.if_icmp .ge 71, 3) := by decide +kernel
theorem dX2_goOver_36 : decode cX2_goOver 36 = .ok (.iload 4, 2) := by decide +kernel
theorem dX2_goOver_38 : decode cX2_goOver 38 = .ok (.aload_n 0, 1) := by decide +kernel
theorem dX2_goOver_39 : decode cX2_goOver 39 = .ok (.getfield 9, 3) := by decide +kernel
theorem dX2_goOver_42 : decode cX2_goOver 42 = .ok (.iload_n 1, 1) := by decide +kernel
theorem dX2_goOver_43 : decode cX2_goOver 43 = .ok (.bipush 10, 2) := by decide +kernel
theorem dX2_goOver_45 : decode cX2_goOver 45 = .ok (.imul, 1) := by decide +kernel
theorem dX2_goOver_46 : decode cX2_goOver 46 = .ok (.iload 5, 2) := by decide +kernel
theorem dX2_goOver_48 : decode cX2_goOver 48 = .ok (.iadd, 1) := by decide +kernel
theorem dX2_goOver_49 : decode cX2_goOver 49 = .ok (.iaload, 1) := by decide +kernel
theorem dX2_goOver_50 : decode cX2_goOver 50 = .ok (.iadd, 1) := by decide +kernel
theorem dX2_goOver_51 : decode cX2_goOver 51 = .ok (.istore 6, 2) := by decide +kernel
theorem dX2_goOver_53 : decode cX2_goOver 53 = .ok (.iload 6, 2) := by decide +kernel
theorem dX2_goOver_55 : decode cX2_goOver 55 = .ok (.aload_n 0, 1) := by decide +kernel
theorem dX2_goOver_56 : decode cX2_goOver 56 = .ok (.getfield 9, 3) := by decide +kernel
theorem dX2_goOver_59 : decode cX2_goOver 59 = .ok (.iload_n 3, 1) := by decide +kernel
theorem dX2_goOver_60 : decode cX2_goOver 60 = .ok (.bipush 10, 2) := by decide +kernel
theorem dX2_goOver_62 : decode cX2_goOver 62 = .ok (.imul, 1) := by decide +kernel
theorem dX2_goOver_63 : decode cX2_goOver 63 = .ok (.iload 5, 2) := by decide +kernel
theorem dX2_goOver_65 : decode cX2_goOver 65 = .ok (.iadd, 1) := by decide +kernel
theorem dX2_goOver_66 : decode cX2_goOver 66 = .ok (.iaload, 1) := by decide +kernel
theorem dX2_goOver_67 : decode cX2_goOver 67 = .ok (.if_icmp .ge 31, 3) := by decide +kernel
theorem dX2_goOver_70 : decode cX2_goOver 70 = .ok (.aload_n 0, 1) := by decide +kernel
theorem dX2_goOver_71 : decode cX2_goOver 71 = .ok (.getfield 9, 3) := by decide +kernel
theorem dX2_goOver_74 : decode cX2_goOver 74 = .ok (.iload_n 3, 1) := by decide +kernel
theorem dX2_goOver_75 : decode cX2_goOver 75 = .ok (.bipush 10, 2) := by decide +kernel
theorem dX2_goOver_77 : decode cX2_goOver 77 = .ok (.imul, 1) := by decide +kernel
theorem dX2_goOver_78 : decode cX2_goOver 78 = .ok (.iload 5, 2) := by decide +kernel
theorem dX2_goOver_80 : decode cX2_goOver 80 = .ok (.iadd, 1) := by decide +kernel
theorem dX2_goOver_81 : decode cX2_goOver 81 = .ok (.iload 6, 2) := by decide +kernel
theorem dX2_goOver_83 : decode cX2_goOver 83 = .ok (.iastore, 1) := by decide +kernel
theorem dX2_goOver_84 : decode cX2_goOver 84 = .ok (.aload_n 0, 1) := by decide +kernel
theorem dX2_goOver_85 : decode cX2_goOver 85 = .ok (.getfield 9, 3) := by decide +kernel
theorem dX2_goOver_88 : decode cX2_goOver 88 = .ok (.iload 5, 2) := by decide +kernel
theorem dX2_goOver_90 : decode cX2_goOver 90 = .ok (.bipush 10, 2) := by decide +kernel
theorem dX2_goOver_92 : decode cX2_goOver 92 = .ok (.imul, 1) := by decide +kernel
theorem dX2_goOver_93 : decode cX2_goOver 93 = .ok (.iload_n 3, 1) := by decide +kernel
theorem dX2_goOver_94 : decode cX2_goOver 94 = .ok (.iadd, 1) := by decide +kernel
theorem dX2_goOver_95 : decode cX2_goOver 95 = .ok (.iload 6, 2) := by decide +kernel
theorem dX2_goOver_97 : decode cX2_goOver 97 = .ok (.iastore, 1) := by decide +kernel
theorem dX2_goOver_98 : decode cX2_goOver 98 = .ok (.iinc 5 1, 3) := by decide +kernel
theorem dX2_goOver_101 : decode cX2_goOver 101 = .ok (.goto (-78), 3) := by decide +kernel
theorem dX2_goOver_104 : decode cX2_goOver 104 = .ok (.iinc 3 1, 3) := by decide +kernel
theorem dX2_goOver_107 : decode cX2_goOver 107 = .ok (.goto (-105), 3) := by decide +kernel
theorem dX2_goOver_110 : decode cX2_goOver 110 = .ok (.return_, 1) := by decide +kernel
theorem dX2_sumOrNone_0 : decode cX2_sumOrNone 0 = .ok (.aload_n 0, 1) := by decide +kernel
theorem dX2_sumOrNone_1 : decode cX2_sumOrNone 1 = .ok (.getfield 9, 3) := by decide +kernel
theorem dX2_sumOrNone_4 : decode cX2_sumOrNone 4 = .ok (.iload_n 1, 1) := by decide +kernel
theorem dX2_sumOrNone_5 : decode cX2_sumOrNone 5 = .ok (.bipush 10, 2) := by decide +kernel
theorem dX2_sumOrNone_7 : decode cX2_sumOrNone 7 = .ok (.imul, 1) := by decide +kernel
theorem dX2_sumOrNone_8 : decode cX2_sumOrNone 8 = .ok (.iload_n 2, 1) := by decide +kernel
theorem dX2_sumOrNone_9 : decode cX2_sumOrNone 9 = .ok (.iadd, 1) := by decide +kernel
theorem dX2_sumOrNone_10 : decode cX2_sumOrNone 10 = .ok (.iaload, 1) := by decide +kernel
theorem dX2_sumOrNone_11 : decode cX2_sumOrNone 11 = .ok (.istore_n 3, 1) := by decide +kernel
theorem dX2_sumOrNone_12 : decode cX2_sumOrNone 12 = .ok (.iload_n 3, 1) := by decide +kernel
theorem dX2_sumOrNone_13 : decode cX2_sumOrNone 13 = .ok (.ldc 47, 2) := by decide +kernel
theorem dX2_sumOrNone_15 : decode cX2_sumOrNone 15 = .ok (.if_icmp .ge 7, 3) := by decide +kernel
theorem dX2_sumOrNone_18 : decode cX2_sumOrNone 18 = .ok (.iload_n 3, 1) := by decide +kernel
theorem dX2_sumOrNone_19 : decode cX2_sumOrNone 19 = .ok (.goto 4, 3) := by decide +kernel
theorem dX2_sumOrNone_22 : decode cX2_sumOrNone 22 = .ok (.iconst (-1), 1) := by decide +kernel
theorem dX2_sumOrNone_23 : decode cX2_sumOrNone 23 = .ok (.ireturn, 1) := by decide +kernel
theorem dX3_init_0 : decode cX3_init 0 = .ok (.aload_n 0, 1) := by decide +kernel
theorem dX3_init_1 : decode cX3_init 1 = .ok (.invokespecial 3, 3) := by decide +kernel
theorem dX3_init_4 : decode cX3_init 4 = .ok (.aload_n 0, 1) := by decide +kernel
theorem dX3_init_5 : decode cX3_init 5 = .ok (.new 9, 3) := by decide +kernel
theorem dX3_init_8 : decode cX3_init 8 = .ok (.dup, 1) := by decide +kernel
theorem dX3_init_9 : decode cX3_init 9 = .ok (.invokespecial 11, 3) := by decide +kernel
theorem dX3_init_12 : decode cX3_init 12 = .ok (.putfield 12, 3) := by decide +kernel
theorem dX3_init_15 : decode cX3_init 15 = .ok (.aload_n 0, 1) := by decide +kernel
theorem dX3_init_16 : decode cX3_init 16 = .ok (.new 18, 3) := by decide +kernel
theorem dX3_init_19 : decode cX3_init 19 = .ok (.dup, 1) := by decide +kernel
theorem dX3_init_20 : decode cX3_init 20 = .ok (.invokespecial 20, 3) := by decide +kernel
theorem dX3_init_23 : decode cX3_init 23 = .ok (.putfield 21, 3) := by decide +kernel
theorem dX3_init_26 : decode cX3_init 26 = .ok (.aload_n 0, 1) := by decide +kernel
theorem dX3_init_27 : decode cX3_init 27 = .ok (.new 25, 3) := by decide +kernel
theorem dX3_init_30 : decode cX3_init 30 = .ok (.dup, 1) := by decide +kernel
theorem dX3_init_31 : decode cX3_init 31 = .ok (.invokespecial 27, 3) := by decide +kernel
theorem dX3_init_34 : decode cX3_init 34 = .ok (.putfield 28, 3) := by decide +kernel
theorem dX3_init_37 : decode cX3_init 37 = .ok (.return_, 1) := by decide +kernel
theorem dX3_putCrossing_0 : decode cX3_putCrossing 0 = .ok (.aload_n 0, 1) := by decide +kernel
theorem dX3_putCrossing_1 : decode cX3_putCrossing 1 = .ok (.iconst 1, 1) := by decide +kernel
theorem dX3_putCrossing_2 : decode cX3_putCrossing 2 = .ok (.putfield 49, 3) := by decide +kernel
theorem dX3_putCrossing_5 : decode cX3_putCrossing 5 = .ok (.aload_n 0, 1) := by decide +kernel
theorem dX3_putCrossing_6 : decode cX3_putCrossing 6 = .ok (.dup, 1) := by decide +kernel
theorem dX3_putCrossing_7 : decode cX3_putCrossing 7 = .ok (.getfield 42, 3) := by decide +kernel
theorem dX3_putCrossing_10 : decode cX3_putCrossing 10 = .ok (.iconst 1, 1) := by decide +kernel
theorem dX3_putCrossing_11 : decode cX3_putCrossing 11 = .ok (.iadd, 1) := by decide +kernel
theorem dX3_putCrossing_12 : decode cX3_putCrossing 12 = .ok (.putfield 42, 3) := by decide +kernel
theorem dX3_putCrossing_15 : decode cX3_putCrossing 15 = .ok (.aload_n 0, 1) := by decide +kernel
theorem dX3_putCrossing_16 : decode cX3_putCrossing 16 = .ok (.getfield 42, 3) := by decide +kernel
theorem dX3_putCrossing_19 : decode cX3_putCrossing 19 = .ok (.iconst 1, 1) := by decide +kernel
theorem dX3_putCrossing_20 : decode cX3_putCrossing 20 = .ok (.isub, 1) := by decide +kernel
theorem dX3_putCrossing_21 : decode cX3_putCrossing 21 = .ok (.ireturn, 1) := by decide +kernel
theorem dX3_putRoad_0 : decode cX3_putRoad 0 = .ok (.aload_n 0, 1) := by decide +kernel
theorem dX3_putRoad_1 : decode cX3_putRoad 1 = .ok (.iconst 1, 1) := by decide +kernel
theorem dX3_putRoad_2 : decode cX3_putRoad 2 = .ok (.putfield 49, 3) := by decide +kernel
theorem dX3_putRoad_5 : decode cX3_putRoad 5 = .ok (.aload_n 0, 1) := by decide +kernel
theorem dX3_putRoad_6 : decode cX3_putRoad 6 = .ok (.getfield 12, 3) := by decide +kernel
theorem dX3_putRoad_9 : decode cX3_putRoad 9 = .ok (.iload_n 1, 1) := by decide +kernel
theorem dX3_putRoad_10 : decode cX3_putRoad 10 = .ok (.iload_n 2, 1) := by decide +kernel
theorem dX3_putRoad_11 : decode cX3_putRoad 11 = .ok (.iload_n 3, 1) := by decide +kernel
theorem dX3_putRoad_12 : decode cX3_putRoad 12 = .ok (.iload 4, 2) := by decide +kernel
theorem dX3_putRoad_14 : decode cX3_putRoad 14 = .ok (.invokevirtual 53, 3) := by decide +kernel
theorem dX3_putRoad_17 : decode cX3_putRoad 17 = .ok (.ireturn, 1) := by decide +kernel
theorem dX3_closeRoad_0 : decode cX3_closeRoad 0 = .ok (.aload_n 0, 1) := by decide +kernel
theorem dX3_closeRoad_1 : decode cX3_closeRoad 1 = .ok (.iconst 1, 1) := by decide +kernel
theorem dX3_closeRoad_2 : decode cX3_closeRoad 2 = .ok (.putfield 49, 3) := by decide +kernel
theorem dX3_closeRoad_5 : decode cX3_closeRoad 5 = .ok (.aload_n 0, 1) := by decide +kernel
theorem dX3_closeRoad_6 : decode cX3_closeRoad 6 = .ok (.getfield 12, 3) := by decide +kernel
theorem dX3_closeRoad_9 : decode cX3_closeRoad 9 = .ok (.getfield 57, 3) := by decide +kernel
theorem dX3_closeRoad_12 : decode cX3_closeRoad 12 = .ok (.iload_n 1, 1) := by decide +kernel
theorem dX3_closeRoad_13 : decode cX3_closeRoad 13 = .ok (.iload_n 2, 1) := by decide +kernel
theorem dX3_closeRoad_14 : decode cX3_closeRoad 14 = .ok (.iastore, 1) := by decide +kernel
theorem dX3_closeRoad_15 : decode cX3_closeRoad 15 = .ok (.return_, 1) := by decide +kernel
theorem dX3_untie_0 : decode cX3_untie 0 = .ok (.aload_n 0, 1) := by decide +kernel
theorem dX3_untie_1 : decode cX3_untie 1 = .ok (.iconst 1, 1) := by decide +kernel
theorem dX3_untie_2 : decode cX3_untie 2 = .ok (.putfield 49, 3) := by decide +kernel
theorem dX3_untie_5 : decode cX3_untie 5 = .ok (.aload_n 0, 1) := by decide +kernel
theorem dX3_untie_6 : decode cX3_untie 6 = .ok (.getfield 12, 3) := by decide +kernel
theorem dX3_untie_9 : decode cX3_untie 9 = .ok (.getfield 61, 3) := by decide +kernel
theorem dX3_untie_12 : decode cX3_untie 12 = .ok (.iload_n 1, 1) := by decide +kernel
theorem dX3_untie_13 : decode cX3_untie 13 = .ok (.iaload, 1) := by decide +kernel
theorem dX3_untie_14 : decode cX3_untie 14 = .ok (.istore_n 2, 1) := by decide +kernel
theorem dX3_untie_15 : decode cX3_untie 15 = .ok (.aload_n 0, 1) := by decide +kernel
theorem dX3_untie_16 : decode cX3_untie 16 = .ok (.getfield 12, 3) := by decide +kernel
theorem dX3_untie_19 : decode cX3_untie 19 = .ok (.getfield 61, 3) := by decide +kernel
theorem dX3_untie_22 : decode cX3_untie 22 = .ok (.iload_n 1, 1) := by decide +kernel
theorem dX3_untie_23 : decode cX3_untie 23 = .ok (.iconst 0, 1) := by decide +kernel
theorem dX3_untie_24 : decode cX3_untie 24 = .ok (.iastore, 1) := by decide +kernel
theorem dX3_untie_25 : decode cX3_untie 25 = .ok (.iload_n 2, 1) := by decide +kernel
theorem dX3_untie_26 : decode cX3_untie 26 = .ok (.ireturn, 1) := by decide +kernel
theorem dX3_findOpenWays_0 : decode cX3_findOpenWays 0 = .ok (.aload_n 0, 1) := by decide +kernel
theorem dX3_findOpenWays_1 : decode cX3_findOpenWays 1 = .ok (.getfield 49, 3) := by decide +kernel
theorem dX3_findOpenWays_4 : decode cX3_findOpenWays 4 = .ok (.ifCond .eq 24, 3) := by decide +kernel
theorem dX3_findOpenWays_7 : decode cX3_findOpenWays 7 = .ok (.aload_n 0, 1) := by decide +kernel
theorem dX3_findOpenWays_8 : decode cX3_findOpenWays 8 = .ok (.getfield 28, 3) := by decide +kernel
theorem dX3_findOpenWays_11 : decode cX3_findOpenWays 11 = .ok (.aload_n 0, 1) := by decide +kernel
theorem dX3_findOpenWays_12 : decode cX3_findOpenWays 12 = .ok (.getfield 12, 3) := by decide +kernel
theorem dX3_findOpenWays_15 : decode cX3_findOpenWays 15 = .ok (.aload_n 0, 1) := by decide +kernel
theorem dX3_findOpenWays_16 : decode cX3_findOpenWays 16 = .ok (.getfield 42, 3) := by decide +kernel
theorem dX3_findOpenWays_19 : decode cX3_findOpenWays 19 = .ok (.iconst 1, 1) := by decide +kernel
theorem dX3_findOpenWays_20 : decode cX3_findOpenWays 20 = .ok (.invokevirtual 64, 3) := by decide +kernel
theorem dX3_findOpenWays_23 : decode cX3_findOpenWays 23 = .ok (.aload_n 0, 1) := by decide +kernel
theorem dX3_findOpenWays_24 : decode cX3_findOpenWays 24 = .ok (.iconst 0, 1) := by decide +kernel
theorem dX3_findOpenWays_25 : decode cX3_findOpenWays 25 = .ok (.putfield 49, 3) := by decide +kernel
theorem dX3_findOpenWays_28 : decode cX3_findOpenWays 28 = .ok (.return_, 1) := by decide +kernel
theorem dX3_roadToward_0 : decode cX3_roadToward 0 = .ok (.iconst (-1), 1) := by decide +kernel
theorem dX3_roadToward_1 : decode cX3_roadToward 1 = .ok (.istore_n 3, 1) := by decide +kernel
theorem dX3_roadToward_2 : decode cX3_roadToward 2 = .ok (.ldc 68, 2) := by decide +kernel
theorem dX3_roadToward_4 : decode cX3_roadToward 4 = .ok (.istore 4, 2) := by decide +kernel
theorem dX3_roadToward_6 : decode cX3_roadToward 6 = .ok (.iconst 0, 1) := by decide +kernel
theorem dX3_roadToward_7 : decode cX3_roadToward 7 = .ok (.istore 5, 2) := by decide +kernel
theorem dX3_roadToward_9 : decode cX3_roadToward 9 = .ok (.iload 5, 2) := by decide +kernel
theorem dX3_roadToward_11 : decode cX3_roadToward 11 = .ok (.aload_n 0, 1) := by decide +kernel
theorem dX3_roadToward_12 : decode cX3_roadToward 12 = .ok (.getfield 12, 3) := by decide +kernel
theorem dX3_roadToward_15 : decode cX3_roadToward 15 = .ok (.getfield 69, 3) := by decide +kernel
theorem dX3_roadToward_18 : decode cX3_roadToward 18 = .ok (.if_icmp .ge 84, 3) := by decide +kernel
theorem dX3_roadToward_21 : decode cX3_roadToward 21 = .ok (.aload_n 0, 1) := by decide +kernel
theorem dX3_roadToward_22 : decode cX3_roadToward 22 = .ok (.getfield 12, 3) := by decide +kernel
theorem dX3_roadToward_25 : decode cX3_roadToward 25 = .ok (.getfield 57, 3) := by decide +kernel
theorem dX3_roadToward_28 : decode cX3_roadToward 28 = .ok (.iload 5, 2) := by decide +kernel
theorem dX3_roadToward_30 : decode cX3_roadToward 30 = .ok (.iaload, 1) := by decide +kernel
theorem dX3_roadToward_31 : decode cX3_roadToward 31 = .ok (.ifCond .le 7, 3) := by decide +kernel
theorem dX3_roadToward_34 : decode cX3_roadToward 34 = .ok (.iconst (-1), 1) := by decide +kernel
theorem dX3_roadToward_35 : decode cX3_roadToward 35 = .ok (.goto 13, 3) := by decide +kernel
theorem dX3_roadToward_38 : decode cX3_roadToward 38 = .ok (.aload_n 0, 1) := by decide +kernel
theorem dX3_roadToward_39 : decode cX3_roadToward 39 = .ok (.getfield 12, 3) := by decide +kernel
theorem dX3_roadToward_42 : decode cX3_roadToward 42 = .ok (.iload 5, 2) := by decide +kernel
theorem dX3_roadToward_44 : decode cX3_roadToward 44 = .ok (.iload_n 1, 1) := by decide +kernel
theorem dX3_roadToward_45 : decode cX3_roadToward 45 = .ok (.invokevirtual 72, 3) := by decide +kernel
theorem dX3_roadToward_48 : decode cX3_roadToward 48 = .ok (.istore 6, 2) := by decide +kernel
theorem dX3_roadToward_50 : decode cX3_roadToward 50 = .ok (.iload 6, 2) := by decide +kernel
theorem dX3_roadToward_52 : decode cX3_roadToward 52 = .ok (.ifCond .lt 44, 3) := by decide +kernel
theorem dX3_roadToward_55 : decode cX3_roadToward 55 = .ok (.aload_n 0, 1) := by decide +kernel
theorem dX3_roadToward_56 : decode cX3_roadToward 56 = .ok (.getfield 12, 3) := by decide +kernel
theorem dX3_roadToward_59 : decode cX3_roadToward 59 = .ok (.iload 5, 2) := by decide +kernel
theorem dX3_roadToward_61 : decode cX3_roadToward 61 = .ok (.invokevirtual 76, 3) := by decide +kernel
theorem dX3_roadToward_64 : decode cX3_roadToward 64 = .ok (.aload_n 0, 1) := by decide +kernel
theorem dX3_roadToward_65 : decode cX3_roadToward 65 = .ok (.getfield 28, 3) := by decide +kernel
theorem dX3_roadToward_68 : decode cX3_roadToward 68 = .ok (.getfield 80, 3) := by decide +kernel
theorem dX3_roadToward_71 : decode cX3_roadToward 71 = .ok (.iload 6, 2) := by decide +kernel
theorem dX3_roadToward_73 : decode cX3_roadToward 73 = .ok (.bipush 10, 2) := by decide +kernel
theorem dX3_roadToward_75 : decode cX3_roadToward 75 = .ok (.imul, 1) := by decide +kernel
theorem dX3_roadToward_76 : decode cX3_roadToward 76 = .ok (.iload_n 2, 1) := by decide +kernel
theorem dX3_roadToward_77 : decode cX3_roadToward 77 = .ok (.iadd, 1) := by decide +kernel
theorem dX3_roadToward_78 : decode cX3_roadToward 78 = .ok (.iaload, 1) := by decide +kernel
theorem dX3_roadToward_79 : decode cX3_roadToward 79 = .ok (.iadd, 1) := by decide +kernel
theorem dX3_roadToward_80 : decode cX3_roadToward 80 = .ok (.istore 7, 2) := by decide +kernel
theorem dX3_roadToward_82 : decode cX3_roadToward 82 = .ok (.iload 7, 2) := by decide +kernel
theorem dX3_roadToward_84 : decode cX3_roadToward 84 = .ok (.iload 4, 2) := by decide +kernel
theorem dX3_roadToward_86 : decode cX3_roadToward 86 = .ok (.if_icmp .ge 10, 3) := by decide +kernel
theorem dX3_roadToward_89 : decode cX3_roadToward 89 = .ok (.iload 7, 2) := by decide +kernel
theorem dX3_roadToward_91 : decode cX3_roadToward 91 = .ok (.istore 4, 2) := by decide +kernel
theorem dX3_roadToward_93 : decode cX3_roadToward 93 = .ok (.iload 5, 2) := by decide +kernel
theorem dX3_roadToward_95 : decode cX3_roadToward 95 = .ok (.istore_n 3, 1) := by decide +kernel
theorem dX3_roadToward_96 : decode cX3_roadToward 96 = .ok (.iinc 5 1, 3) := by decide +kernel
theorem dX3_roadToward_99 : decode cX3_roadToward 99 = .ok (.goto (-90), 3) := by decide +kernel
theorem dX3_roadToward_102 : decode cX3_roadToward 102 = .ok (.iload_n 3, 1) := by decide +kernel
theorem dX3_roadToward_103 : decode cX3_roadToward 103 = .ok (.ireturn, 1) := by decide +kernel
theorem dX3_letHourGoBy_0 : decode cX3_letHourGoBy 0 = .ok (.aload_n 0, 1) := by decide +kernel
theorem dX3_letHourGoBy_1 : decode cX3_letHourGoBy 1 = .ok (.invokevirtual 83, 3) := by decide +kernel
theorem dX3_letHourGoBy_4 : decode cX3_letHourGoBy 4 = .ok (.aload_n 0, 1) := by decide +kernel
theorem dX3_letHourGoBy_5 : decode cX3_letHourGoBy 5 = .ok (.invokevirtual 86, 3) := by decide +kernel
theorem dX3_letHourGoBy_8 : decode cX3_letHourGoBy 8 = .ok (.iconst 0, 1) := by decide +kernel
theorem dX3_letHourGoBy_9 : decode cX3_letHourGoBy 9 = .ok (.istore_n 1, 1) := by decide +kernel
theorem dX3_letHourGoBy_10 : decode cX3_letHourGoBy 10 = .ok (.iload_n 1, 1) := by decide +kernel
theorem dX3_letHourGoBy_11 : decode cX3_letHourGoBy 11 = .ok (.aload_n 0, 1) := by decide +kernel
theorem dX3_letHourGoBy_12 : decode cX3_letHourGoBy 12 = .ok (.getfield 21, 3) := by decide +kernel
theorem dX3_letHourGoBy_15 : decode cX3_letHourGoBy 15 = .ok (.getfield 89, 3) := by decide +kernel
theorem dX3_letHourGoBy_18 : decode cX3_letHourGoBy 18 = .ok (.if_icmp .ge 37, 3) := by decide +kernel
theorem dX3_letHourGoBy_21 : decode cX3_letHourGoBy 21 = .ok (.aload_n 0, 1) := by decide +kernel
theorem dX3_letHourGoBy_22 : decode cX3_letHourGoBy 22 = .ok (.getfield 21, 3) := by decide +kernel
theorem dX3_letHourGoBy_25 : decode cX3_letHourGoBy 25 = .ok (.iload_n 1, 1) := by decide +kernel
theorem dX3_letHourGoBy_26 : decode cX3_letHourGoBy 26 = .ok (.invokevirtual 90, 3) := by decide +kernel
theorem dX3_letHourGoBy_29 : decode cX3_letHourGoBy 29 = .ok (.ifCond .ne 20, 3) := by decide +kernel
theorem dX3_letHourGoBy_32 : decode cX3_letHourGoBy 32 = .ok (.aload_n 0, 1) := by decide +kernel
theorem dX3_letHourGoBy_33 : decode cX3_letHourGoBy 33 = .ok (.iload_n 1, 1) := by decide +kernel
theorem dX3_letHourGoBy_34 : decode cX3_letHourGoBy 34 = .ok (.invokevirtual 94, 3) := by decide +kernel
theorem dX3_letHourGoBy_37 : decode cX3_letHourGoBy 37 = .ok (.aload_n 0, 1) := by decide +kernel
theorem dX3_letHourGoBy_38 : decode cX3_letHourGoBy 38 = .ok (.getfield 21, 3) := by decide +kernel
theorem dX3_letHourGoBy_41 : decode cX3_letHourGoBy 41 = .ok (.iload_n 1, 1) := by decide +kernel
theorem dX3_letHourGoBy_42 : decode cX3_letHourGoBy 42 = .ok (.aload_n 0, 1) := by decide +kernel
theorem dX3_letHourGoBy_43 : decode cX3_letHourGoBy 43 = .ok (.getfield 46, 3) := by decide +kernel
theorem dX3_letHourGoBy_46 : decode cX3_letHourGoBy 46 = .ok (.invokevirtual 98, 3) := by decide +kernel
theorem dX3_letHourGoBy_49 : decode cX3_letHourGoBy 49 = .ok (.iinc 1 1, 3) := by decide +kernel
theorem dX3_letHourGoBy_52 : decode cX3_letHourGoBy 52 = .ok (.goto (-42), 3) := by decide +kernel
theorem dX3_letHourGoBy_55 : decode cX3_letHourGoBy 55 = .ok (.aload_n 0, 1) := by decide +kernel
theorem dX3_letHourGoBy_56 : decode cX3_letHourGoBy 56 = .ok (.invokevirtual 102, 3) := by decide +kernel
theorem dX3_letHourGoBy_59 : decode cX3_letHourGoBy 59 = .ok (.aload_n 0, 1) := by decide +kernel
theorem dX3_letHourGoBy_60 : decode cX3_letHourGoBy 60 = .ok (.dup, 1) := by decide +kernel
theorem dX3_letHourGoBy_61 : decode cX3_letHourGoBy 61 = .ok (.getfield 46, 3) := by decide +kernel
theorem dX3_letHourGoBy_64 : decode cX3_letHourGoBy 64 = .ok (.iconst 1, 1) := by decide +kernel
theorem dX3_letHourGoBy_65 : decode cX3_letHourGoBy 65 = .ok (.iadd, 1) := by decide +kernel
theorem dX3_letHourGoBy_66 : decode cX3_letHourGoBy 66 = .ok (.putfield 46, 3) := by decide +kernel
theorem dX3_letHourGoBy_69 : decode cX3_letHourGoBy 69 = .ok (.return_, 1) := by decide +kernel
theorem dX3_goOnMending_0 : decode cX3_goOnMending 0 = .ok (.iconst 0, 1) := by decide +kernel
theorem dX3_goOnMending_1 : decode cX3_goOnMending 1 = .ok (.istore_n 1, 1) := by decide +kernel
theorem dX3_goOnMending_2 : decode cX3_goOnMending 2 = .ok (.iload_n 1, 1) := by decide +kernel
theorem dX3_goOnMending_3 : decode cX3_goOnMending 3 = .ok (.aload_n 0, 1) := by decide +kernel
theorem dX3_goOnMending_4 : decode cX3_goOnMending 4 = .ok (.getfield 12, 3) := by decide +kernel
theorem dX3_goOnMending_7 : decode cX3_goOnMending 7 = .ok (.getfield 69, 3) := by decide +kernel
theorem dX3_goOnMending_10 : decode cX3_goOnMending 10 = .ok (.if_icmp .ge 59, 3) := by decide +kernel
theorem dX3_goOnMending_13 : decode cX3_goOnMending 13 = .ok (.aload_n 0, 1) := by decide +kernel
theorem dX3_goOnMending_14 : decode cX3_goOnMending 14 = .ok (.getfield 12, 3) := by decide +kernel
theorem dX3_goOnMending_17 : decode cX3_goOnMending 17 = .ok (.getfield 57, 3) := by decide +kernel
theorem dX3_goOnMending_20 : decode cX3_goOnMending 20 = .ok (.iload_n 1, 1) := by decide +kernel
theorem dX3_goOnMending_21 : decode cX3_goOnMending 21 = .ok (.iaload, 1) := by decide +kernel
theorem dX3_goOnMending_22 : decode cX3_goOnMending 22 = .ok (.ifCond .le 41, 3) := by decide +kernel
theorem dX3_goOnMending_25 : decode cX3_goOnMending 25 = .ok (.aload_n 0, 1) := by decide +kernel
theorem dX3_goOnMending_26 : decode cX3_goOnMending 26 = .ok (.getfield 12, 3) := by decide +kernel
theorem dX3_goOnMending_29 : decode cX3_goOnMending 29 = .ok (.getfield 57, 3) := by decide +kernel
theorem dX3_goOnMending_32 : decode cX3_goOnMending 32 = .ok (.iload_n 1, 1) := by decide +kernel
theorem dX3_goOnMending_33 : decode cX3_goOnMending 33 = .ok (.dup2, 1) := by decide +kernel
theorem dX3_goOnMending_34 : decode cX3_goOnMending 34 = .ok (.iaload, 1) := by decide +kernel
theorem dX3_goOnMending_35 : decode cX3_goOnMending 35 = .ok (.iconst 1, 1) := by decide +kernel
theorem dX3_goOnMending_36 : decode cX3_goOnMending 36 = .ok (.isub, 1) := by decide +kernel
theorem dX3_goOnMending_37 : decode cX3_goOnMending 37 = .ok (.iastore, 1) := by decide +kernel
theorem dX3_goOnMending_38 : decode cX3_goOnMending 38 = .ok (.aload_n 0, 1) := by decide +kernel
theorem dX3_goOnMending_39 : decode cX3_goOnMending 39 = .ok (.getfield 12, 3) := by decide +kernel
theorem dX3_goOnMending_42 : decode cX3_goOnMending 42 = .ok (.getfield 57, 3) := by decide +kernel
theorem dX3_goOnMending_45 : decode cX3_goOnMending 45 = .ok (.iload_n 1, 1) := by decide +kernel
theorem dX3_goOnMending_46 : decode cX3_goOnMending 46 = .ok (.iaload, 1) := by decide +kernel
theorem dX3_goOnMending_47 : decode cX3_goOnMending 47 = .ok (.ifCond .ne 16, 3) := by decide +kernel
theorem dX3_goOnMending_50 : decode cX3_goOnMending 50 = .ok (.aload_n 0, 1) := by decide +kernel
theorem dX3_goOnMending_51 : decode cX3_goOnMending 51 = .ok (.getfield 12, 3) := by decide +kernel
theorem dX3_goOnMending_54 : decode cX3_goOnMending 54 = .ok (.iload_n 1, 1) := by decide +kernel
theorem dX3_goOnMending_55 : decode cX3_goOnMending 55 = .ok (.invokevirtual 105, 3) := by decide +kernel
theorem dX3_goOnMending_58 : decode cX3_goOnMending 58 = .ok (.aload_n 0, 1) := by decide +kernel
theorem dX3_goOnMending_59 : decode cX3_goOnMending 59 = .ok (.iconst 1, 1) := by decide +kernel
theorem dX3_goOnMending_60 : decode cX3_goOnMending 60 = .ok (.putfield 49, 3) := by decide +kernel
theorem dX3_goOnMending_63 : decode cX3_goOnMending 63 = .ok (.iinc 1 1, 3) := by decide +kernel
theorem dX3_goOnMending_66 : decode cX3_goOnMending 66 = .ok (.goto (-64), 3) := by decide +kernel
theorem dX3_goOnMending_69 : decode cX3_goOnMending 69 = .ok (.return_, 1) := by decide +kernel
theorem dX3_setOut_0 : decode cX3_setOut 0 = .ok (.aload_n 0, 1) := by decide +kernel
theorem dX3_setOut_1 : decode cX3_setOut 1 = .ok (.getfield 21, 3) := by decide +kernel
theorem dX3_setOut_4 : decode cX3_setOut 4 = .ok (.getfield 108, 3) := by decide +kernel
theorem dX3_setOut_7 : decode cX3_setOut 7 = .ok (.iload_n 1, 1) := by decide +kernel
theorem dX3_setOut_8 : decode cX3_setOut 8 = .ok (.iaload, 1) := by decide +kernel
theorem dX3_setOut_9 : decode cX3_setOut 9 = .ok (.istore_n 2, 1) := by decide +kernel
theorem dX3_setOut_10 : decode cX3_setOut 10 = .ok (.iload_n 2, 1) := by decide +kernel
theorem dX3_setOut_11 : decode cX3_setOut 11 = .ok (.ifCond .ge 4, 3) := by decide +kernel
theorem dX3_setOut_14 : decode cX3_setOut 14 = .ok (.return_, 1) := by decide +kernel
theorem dX3_setOut_15 : decode cX3_setOut 15 = .ok (.aload_n 0, 1) := by decide +kernel
theorem dX3_setOut_16 : decode cX3_setOut 16 = .ok (.iload_n 2, 1) := by decide +kernel
theorem dX3_setOut_17 : decode cX3_setOut 17 = .ok (.aload_n 0, 1) := by decide +kernel
theorem dX3_setOut_18 : decode cX3_setOut 18 = .ok (.getfield 21, 3) := by decide +kernel
theorem dX3_setOut_21 : decode cX3_setOut 21 = .ok (.getfield 111, 3) := by decide +kernel
theorem dX3_setOut_24 : decode cX3_setOut 24 = .ok (.iload_n 1, 1) := by decide +kernel
theorem dX3_setOut_25 : decode cX3_setOut 25 = .ok (.iaload, 1) := by decide +kernel
theorem dX3_setOut_26 : decode cX3_setOut 26 = .ok (.invokevirtual 114, 3) := by decide +kernel
theorem dX3_setOut_29 : decode cX3_setOut 29 = .ok (.istore_n 3, 1) := by decide +kernel
theorem dX3_setOut_30 : decode cX3_setOut 30 = .ok (.iload_n 3, 1) := by decide +kernel
theorem dX3_setOut_31 : decode cX3_setOut 31 = .ok (.ifCond .lt 72, 3) := by decide +kernel
theorem dX3_setOut_34 : decode cX3_setOut 34 = .ok (.aload_n 0, 1) := by decide +kernel
theorem dX3_setOut_35 : decode cX3_setOut 35 = .ok (.getfield 21, 3) := by decide +kernel
theorem dX3_setOut_38 : decode cX3_setOut 38 = .ok (.iload_n 1, 1) := by decide +kernel
theorem dX3_setOut_39 : decode cX3_setOut 39 = .ok (.iload_n 3, 1) := by decide +kernel
theorem dX3_setOut_40 : decode cX3_setOut 40 = .ok (.aload_n 0, 1) := by decide +kernel
theorem dX3_setOut_41 : decode cX3_setOut 41 = .ok (.getfield 12, 3) := by decide +kernel
theorem dX3_setOut_44 : decode cX3_setOut 44 = .ok (.iload_n 3, 1) := by decide +kernel
theorem dX3_setOut_45 : decode cX3_setOut 45 = .ok (.iload_n 2, 1) := by decide +kernel
theorem dX3_setOut_46 : decode cX3_setOut 46 = .ok (.invokevirtual 72, 3) := by decide +kernel
theorem dX3_setOut_49 : decode cX3_setOut 49 = .ok (.aload_n 0, 1) := by decide +kernel
theorem dX3_setOut_50 : decode cX3_setOut 50 = .ok (.getfield 12, 3) := by decide +kernel
theorem dX3_setOut_53 : decode cX3_setOut 53 = .ok (.iload_n 3, 1) := by decide +kernel
theorem dX3_setOut_54 : decode cX3_setOut 54 = .ok (.invokevirtual 76, 3) := by decide +kernel
theorem dX3_setOut_57 : decode cX3_setOut 57 = .ok (.invokevirtual 117, 3) := by decide +kernel
theorem dX3_setOut_60 : decode cX3_setOut 60 = .ok (.aload_n 0, 1) := by decide +kernel
theorem dX3_setOut_61 : decode cX3_setOut 61 = .ok (.getfield 21, 3) := by decide +kernel
theorem dX3_setOut_64 : decode cX3_setOut 64 = .ok (.getfield 121, 3) := by decide +kernel
theorem dX3_setOut_67 : decode cX3_setOut 67 = .ok (.iload_n 1, 1) := by decide +kernel
theorem dX3_setOut_68 : decode cX3_setOut 68 = .ok (.aload_n 0, 1) := by decide +kernel
theorem dX3_setOut_69 : decode cX3_setOut 69 = .ok (.getfield 21, 3) := by decide +kernel
theorem dX3_setOut_72 : decode cX3_setOut 72 = .ok (.getfield 121, 3) := by decide +kernel
theorem dX3_setOut_75 : decode cX3_setOut 75 = .ok (.iload_n 1, 1) := by decide +kernel
theorem dX3_setOut_76 : decode cX3_setOut 76 = .ok (.iaload, 1) := by decide +kernel
theorem dX3_setOut_77 : decode cX3_setOut 77 = .ok (.aload_n 0, 1) := by decide +kernel
theorem dX3_setOut_78 : decode cX3_setOut 78 = .ok (.getfield 12, 3) := by decide +kernel
theorem dX3_setOut_81 : decode cX3_setOut 81 = .ok (.getfield 124, 3) := by decide +kernel
theorem dX3_setOut_84 : decode cX3_setOut 84 = .ok (.iload_n 3, 1) := by decide +kernel
theorem dX3_setOut_85 : decode cX3_setOut 85 = .ok (.iaload, 1) := by decide +kernel
theorem dX3_setOut_86 : decode cX3_setOut 86 = .ok (.invokestatic 125, 3) := by decide +kernel
theorem dX3_setOut_89 : decode cX3_setOut 89 = .ok (.iastore, 1) := by decide +kernel
theorem dX3_setOut_90 : decode cX3_setOut 90 = .ok (.aload_n 0, 1) := by decide +kernel
theorem dX3_setOut_91 : decode cX3_setOut 91 = .ok (.getfield 12, 3) := by decide +kernel
theorem dX3_setOut_94 : decode cX3_setOut 94 = .ok (.getfield 128, 3) := by decide +kernel
theorem dX3_setOut_97 : decode cX3_setOut 97 = .ok (.iload_n 3, 1) := by decide +kernel
theorem dX3_setOut_98 : decode cX3_setOut 98 = .ok (.dup2, 1) := by decide +kernel
theorem dX3_setOut_99 : decode cX3_setOut 99 = .ok (.iaload, 1) := by decide +kernel
theorem dX3_setOut_100 : decode cX3_setOut 100 = .ok (.iconst 1, 1) := by decide +kernel
theorem dX3_setOut_101 : decode cX3_setOut 101 = .ok (.iadd, 1) := by decide +kernel
theorem dX3_setOut_102 : decode cX3_setOut 102 = .ok (.iastore, 1) := by decide +kernel
theorem dX3_setOut_103 : decode cX3_setOut 103 = .ok (.return_, 1) := by decide +kernel
theorem dX3_closeWornRoads_0 : decode cX3_closeWornRoads 0 = .ok (.iconst 0, 1) := by decide +kernel
theorem dX3_closeWornRoads_1 : decode cX3_closeWornRoads 1 = .ok (.istore_n 1, 1) := by decide +kernel
theorem dX3_closeWornRoads_2 : decode cX3_closeWornRoads 2 = .ok (.iload_n 1, 1) := by decide +kernel
theorem dX3_closeWornRoads_3 : decode cX3_closeWornRoads 3 = .ok (.aload_n 0, 1) := by decide +kernel
theorem dX3_closeWornRoads_4 : decode cX3_closeWornRoads 4 = .ok (.getfield 12, 3) := by decide +kernel
theorem dX3_closeWornRoads_7 : decode cX3_closeWornRoads 7 = .ok (.getfield 69, 3) := by decide +kernel
theorem dX3_closeWornRoads_10 : decode cX3_closeWornRoads 10 = .ok (.if_icmp .ge 51, 3) := by decide +kernel
theorem dX3_closeWornRoads_13 : decode cX3_closeWornRoads 13 = .ok (.aload_n 0, 1) := by decide +kernel
theorem dX3_closeWornRoads_14 : decode cX3_closeWornRoads 14 = .ok (.getfield 12, 3) := by decide +kernel
theorem dX3_closeWornRoads_17 : decode cX3_closeWornRoads 17 = .ok (.getfield 57, 3) := by decide +kernel
theorem dX3_closeWornRoads_20 : decode cX3_closeWornRoads 20 = .ok (.iload_n 1, 1) := by decide +kernel
theorem dX3_closeWornRoads_21 : decode cX3_closeWornRoads 21 = .ok (.iaload, 1) := by decide +kernel
theorem dX3_closeWornRoads_22 : decode cX3_closeWornRoads 22 = .ok (.ifCond .ne 33, 3) := by decide +kernel
theorem dX3_closeWornRoads_25 : decode cX3_closeWornRoads 25 = .ok (.aload_n 0, 1) := by decide +kernel
theorem dX3_closeWornRoads_26 : decode cX3_closeWornRoads 26 = .ok (.getfield 12, 3) := by decide +kernel
theorem dX3_closeWornRoads_29 : decode cX3_closeWornRoads 29 = .ok (.getfield 128, 3) := by decide +kernel
theorem dX3_closeWornRoads_32 : decode cX3_closeWornRoads 32 = .ok (.iload_n 1, 1) := by decide +kernel
theorem dX3_closeWornRoads_33 : decode cX3_closeWornRoads 33 = .ok (.iaload, 1) := by decide +kernel
theorem dX3_closeWornRoads_34 : decode cX3_closeWornRoads 34 = .ok (.iconst 5, 1) := by decide +kernel
theorem dX3_closeWornRoads_35 : decode cX3_closeWornRoads 35 = .ok (.if_icmp .lt 20, 3) := by decide +kernel
theorem dX3_closeWornRoads_38 : decode cX3_closeWornRoads 38 = .ok (.aload_n 0, 1) := by decide +kernel
theorem dX3_closeWornRoads_39 : decode cX3_closeWornRoads 39 = .ok (.getfield 21, 3) := by decide +kernel
theorem dX3_closeWornRoads_42 : decode cX3_closeWornRoads 42 = .ok (.iload_n 1, 1) := by decide +kernel
theorem dX3_closeWornRoads_43 : decode cX3_closeWornRoads 43 = .ok (.invokevirtual 131, 3) := by decide +kernel
theorem dX3_closeWornRoads_46 : decode cX3_closeWornRoads 46 = .ok (.ifCond .ne 9, 3) := by decide +kernel
theorem dX3_closeWornRoads_49 : decode cX3_closeWornRoads 49 = .ok (.aload_n 0, 1) := by decide +kernel
theorem dX3_closeWornRoads_50 : decode cX3_closeWornRoads 50 = .ok (.iload_n 1, 1) := by decide +kernel
theorem dX3_closeWornRoads_51 : decode cX3_closeWornRoads 51 = .ok (.iconst 4, 1) := by decide +kernel
theorem dX3_closeWornRoads_52 : decode cX3_closeWornRoads 52 = .ok (.invokevirtual 134, 3) := by decide +kernel
theorem dX3_closeWornRoads_55 : decode cX3_closeWornRoads 55 = .ok (.iinc 1 1, 3) := by decide +kernel
theorem dX3_closeWornRoads_58 : decode cX3_closeWornRoads 58 = .ok (.goto (-56), 3) := by decide +kernel
theorem dX3_closeWornRoads_61 : decode cX3_closeWornRoads 61 = .ok (.return_, 1) := by decide +kernel
theorem dX3_mixed_0 : decode cX3_mixed 0 = .ok (.iload_n 0, 1) := by decide +kernel
theorem dX3_mixed_1 : decode cX3_mixed 1 = .ok (.ifCond .eq 8, 3) := by decide +kernel
theorem dX3_mixed_4 : decode cX3_mixed 4 = .ok (.iload_n 0, 1) := by decide +kernel
theorem dX3_mixed_5 : decode cX3_mixed 5 = .ok (.iload_n 1, 1) := by decide +kernel
theorem dX3_mixed_6 : decode cX3_mixed 6 = .ok (.if_icmp .ne 5, 3) := by decide +kernel
theorem dX3_mixed_9 : decode cX3_mixed 9 = .ok (.iload_n 1, 1) := by decide +kernel
theorem dX3_mixed_10 : decode cX3_mixed 10 = .ok (.ireturn, 1) := by decide +kernel
theorem dX3_mixed_11 : decode cX3_mixed 11 = .ok (.iload_n 1, 1) := by decide +kernel
theorem dX3_mixed_12 : decode cX3_mixed 12 = .ok (.ifCond .ne 5, 3) := by decide +kernel
theorem dX3_mixed_15 : decode cX3_mixed 15 = .ok (.iload_n 0, 1) := by decide +kernel
theorem dX3_mixed_16 : decode cX3_mixed 16 = .ok (.ireturn, 1) := by decide +kernel
theorem dX3_mixed_17 : decode cX3_mixed 17 = .ok (.bipush 6, 2) := by decide +kernel
theorem dX3_mixed_19 : decode cX3_mixed 19 = .ok (.iload_n 0, 1) := by decide +kernel
theorem dX3_mixed_20 : decode cX3_mixed 20 = .ok (.isub, 1) := by decide +kernel
theorem dX3_mixed_21 : decode cX3_mixed 21 = .ok (.iload_n 1, 1) := by decide +kernel
theorem dX3_mixed_22 : decode cX3_mixed 22 = .ok (.isub, 1) := by decide +kernel
theorem dX3_mixed_23 : decode cX3_mixed 23 = .ok (.ireturn, 1) := by decide +kernel
theorem dX4_init_0 : decode cX4_init 0 = .ok (.aload_n 0, 1) := by decide +kernel
theorem dX4_init_1 : decode cX4_init 1 = .ok (.invokespecial 1, 3) := by decide +kernel
theorem dX4_init_4 : decode cX4_init 4 = .ok (.aload_n 0, 1) := by decide +kernel
theorem dX4_init_5 : decode cX4_init 5 = .ok (.new 7, 3) := by decide +kernel
theorem dX4_init_8 : decode cX4_init 8 = .ok (.dup, 1) := by decide +kernel
theorem dX4_init_9 : decode cX4_init 9 = .ok (.invokespecial 9, 3) := by decide +kernel
theorem dX4_init_12 : decode cX4_init 12 = .ok (.putfield 10, 3) := by decide +kernel
theorem dX4_init_15 : decode cX4_init 15 = .ok (.aload_n 0, 1) := by decide +kernel
theorem dX4_init_16 : decode cX4_init 16 = .ok (.new 7, 3) := by decide +kernel
theorem dX4_init_19 : decode cX4_init 19 = .ok (.dup, 1) := by decide +kernel
theorem dX4_init_20 : decode cX4_init 20 = .ok (.invokespecial 9, 3) := by decide +kernel
theorem dX4_init_23 : decode cX4_init 23 = .ok (.putfield 16, 3) := by decide +kernel
theorem dX4_init_26 : decode cX4_init 26 = .ok (.aload_n 0, 1) := by decide +kernel
theorem dX4_init_27 : decode cX4_init 27 = .ok (.new 19, 3) := by decide +kernel
theorem dX4_init_30 : decode cX4_init 30 = .ok (.dup, 1) := by decide +kernel
theorem dX4_init_31 : decode cX4_init 31 = .ok (.invokespecial 21, 3) := by decide +kernel
theorem dX4_init_34 : decode cX4_init 34 = .ok (.putfield 22, 3) := by decide +kernel
theorem dX4_init_37 : decode cX4_init 37 = .ok (.return_, 1) := by decide +kernel
theorem dX4_addCrossing_0 : decode cX4_addCrossing 0 = .ok (.aload_n 0, 1) := by decide +kernel
theorem dX4_addCrossing_1 : decode cX4_addCrossing 1 = .ok (.getfield 10, 3) := by decide +kernel
theorem dX4_addCrossing_4 : decode cX4_addCrossing 4 = .ok (.getfield 26, 3) := by decide +kernel
theorem dX4_addCrossing_7 : decode cX4_addCrossing 7 = .ok (.bipush 10, 2) := by decide +kernel
theorem dX4_addCrossing_9 : decode cX4_addCrossing 9 = .ok (.if_icmp .lt 13, 3) := by decide +kernel
theorem dX4_addCrossing_12 : decode cX4_addCrossing 12 = .ok (.new 30, 3) := by decide +kernel
theorem dX4_addCrossing_15 : decode cX4_addCrossing 15 = .ok (.dup, 1) := by decide +kernel
theorem dX4_addCrossing_16 : decode cX4_addCrossing 16 = .ok (.ldc 32, 2) := by decide +kernel
theorem dX4_addCrossing_18 : decode cX4_addCrossing 18 = .ok (.invokespecial 34, 3) := by decide +kernel
theorem dX4_addCrossing_21 : decode cX4_addCrossing 21 = .ok (.athrow, 1) := by decide +kernel
theorem dX4_addCrossing_22 : decode cX4_addCrossing 22 = .ok (.aload_n 0, 1) := by decide +kernel
theorem dX4_addCrossing_23 : decode cX4_addCrossing 23 = .ok (.getfield 10, 3) := by decide +kernel
theorem dX4_addCrossing_26 : decode cX4_addCrossing 26 = .ok (.invokevirtual 37, 3) := by decide +kernel
theorem dX4_addCrossing_29 : decode cX4_addCrossing 29 = .ok (.ireturn, 1) := by decide +kernel
theorem dX4_addRoad_0 : decode cX4_addRoad 0 = .ok (.aload_n 0, 1) := by decide +kernel
theorem dX4_addRoad_1 : decode cX4_addRoad 1 = .ok (.iload_n 1, 1) := by decide +kernel
theorem dX4_addRoad_2 : decode cX4_addRoad 2 = .ok (.invokevirtual 41, 3) := by decide +kernel
theorem dX4_addRoad_5 : decode cX4_addRoad 5 = .ok (.aload_n 0, 1) := by decide +kernel
theorem dX4_addRoad_6 : decode cX4_addRoad 6 = .ok (.iload_n 2, 1) := by decide +kernel
theorem dX4_addRoad_7 : decode cX4_addRoad 7 = .ok (.invokevirtual 41, 3) := by decide +kernel
theorem dX4_addRoad_10 : decode cX4_addRoad 10 = .ok (.iload_n 1, 1) := by decide +kernel
theorem dX4_addRoad_11 : decode cX4_addRoad 11 = .ok (.iload_n 2, 1) := by decide +kernel
theorem dX4_addRoad_12 : decode cX4_addRoad 12 = .ok (.if_icmp .ne 13, 3) := by decide +kernel
theorem dX4_addRoad_15 : decode cX4_addRoad 15 = .ok (.new 45, 3) := by decide +kernel
theorem dX4_addRoad_18 : decode cX4_addRoad 18 = .ok (.dup, 1) := by decide +kernel
theorem dX4_addRoad_19 : decode cX4_addRoad 19 = .ok (.ldc 47, 2) := by decide +kernel
theorem dX4_addRoad_21 : decode cX4_addRoad 21 = .ok (.invokespecial 49, 3) := by decide +kernel
theorem dX4_addRoad_24 : decode cX4_addRoad 24 = .ok (.athrow, 1) := by decide +kernel
theorem dX4_addRoad_25 : decode cX4_addRoad 25 = .ok (.iload_n 3, 1) := by decide +kernel
theorem dX4_addRoad_26 : decode cX4_addRoad 26 = .ok (.iconst 1, 1) := by decide +kernel
theorem dX4_addRoad_27 : decode cX4_addRoad 27 = .ok (.if_icmp .lt 9, 3) := by decide +kernel
theorem dX4_addRoad_30 : decode cX4_addRoad 30 = .ok (.iload_n 3, 1) := by decide +kernel
theorem dX4_addRoad_31 : decode cX4_addRoad 31 = .ok (.bipush 9, 2) := by decide +kernel
theorem dX4_addRoad_33 : decode cX4_addRoad 33 = .ok (.if_icmp .le 13, 3) := by decide +kernel
theorem dX4_addRoad_36 : decode cX4_addRoad 36 = .ok (.new 45, 3) := by decide +kernel
theorem dX4_addRoad_39 : decode cX4_addRoad 39 = .ok (.dup, 1) := by decide +kernel
theorem dX4_addRoad_40 : decode cX4_addRoad 40 = .ok (.ldc 50, 2) := by decide +kernel
theorem dX4_addRoad_42 : decode cX4_addRoad 42 = .ok (.invokespecial 49, 3) := by decide +kernel
theorem dX4_addRoad_45 : decode cX4_addRoad 45 = .ok (.athrow, 1) := by decide +kernel
theorem dX4_addRoad_46 : decode cX4_addRoad 46 = .ok (.iload 4, 2) := by decide +kernel
theorem dX4_addRoad_48 : decode cX4_addRoad 48 = .ok (.ifCond .lt 9, 3) := by decide +kernel
theorem dX4_addRoad_51 : decode cX4_addRoad 51 = .ok (.iload 4, 2) := by decide +kernel
theorem dX4_addRoad_53 : decode cX4_addRoad 53 = .ok (.iconst 3, 1) := by decide +kernel
theorem dX4_addRoad_54 : decode cX4_addRoad 54 = .ok (.if_icmp .le 13, 3) := by decide +kernel
theorem dX4_addRoad_57 : decode cX4_addRoad 57 = .ok (.new 45, 3) := by decide +kernel
theorem dX4_addRoad_60 : decode cX4_addRoad 60 = .ok (.dup, 1) := by decide +kernel
theorem dX4_addRoad_61 : decode cX4_addRoad 61 = .ok (.ldc 52, 2) := by decide +kernel
theorem dX4_addRoad_63 : decode cX4_addRoad 63 = .ok (.invokespecial 49, 3) := by decide +kernel
theorem dX4_addRoad_66 : decode cX4_addRoad 66 = .ok (.athrow, 1) := by decide +kernel
theorem dX4_addRoad_67 : decode cX4_addRoad 67 = .ok (.aload_n 0, 1) := by decide +kernel
theorem dX4_addRoad_68 : decode cX4_addRoad 68 = .ok (.getfield 10, 3) := by decide +kernel
theorem dX4_addRoad_71 : decode cX4_addRoad 71 = .ok (.getfield 54, 3) := by decide +kernel
theorem dX4_addRoad_74 : decode cX4_addRoad 74 = .ok (.getfield 58, 3) := by decide +kernel
theorem dX4_addRoad_77 : decode cX4_addRoad 77 = .ok (.bipush 20, 2) := by decide +kernel
theorem dX4_addRoad_79 : decode cX4_addRoad 79 = .ok (.if_icmp .lt 13, 3) := by decide +kernel
theorem dX4_addRoad_82 : decode cX4_addRoad 82 = .ok (.new 30, 3) := by decide +kernel
