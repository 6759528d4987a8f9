theorem dX5_fray_5 : decode cX5_fray 5 = .ok (.ifCond .ge 10, 3) := by decide +kernel
theorem dX5_fray_8 : decode cX5_fray 8 = .ok (.aload_n 0, 1) := by decide +kernel
theorem dX5_fray_9 : decode cX5_fray 9 = .ok (.getfield 42, 3) := by decide +kernel
theorem dX5_fray_12 : decode cX5_fray 12 = .ok (.goto 7, 3) := by decide +kernel
theorem dX5_fray_15 : decode cX5_fray 15 = .ok (.aload_n 1, 1) := by decide +kernel
theorem dX5_fray_16 : decode cX5_fray 16 = .ok (.bipush 7, 2) := by decide +kernel
theorem dX5_fray_18 : decode cX5_fray 18 = .ok (.iaload, 1) := by decide +kernel
theorem dX5_fray_19 : decode cX5_fray 19 = .ok (.aload_n 1, 1) := by decide +kernel
theorem dX5_fray_20 : decode cX5_fray 20 = .ok (.iconst 5, 1) := by decide +kernel
theorem dX5_fray_21 : decode cX5_fray 21 = .ok (.iaload, 1) := by decide +kernel
theorem dX5_fray_22 : decode cX5_fray 22 = .ok (.isub, 1) := by decide +kernel
theorem dX5_fray_23 : decode cX5_fray 23 = .ok (.aload_n 1, 1) := by decide +kernel
theorem dX5_fray_24 : decode cX5_fray 24 = .ok (.bipush 6, 2) := by decide +kernel
theorem dX5_fray_26 : decode cX5_fray 26 = .ok (.iaload, 1) := by decide +kernel
theorem dX5_fray_27 : decode cX5_fray 27 = .ok (.isub, 1) := by decide +kernel
theorem dX5_fray_28 : decode cX5_fray 28 = .ok (.invokestatic 56, 3) := by decide +kernel
theorem dX5_fray_31 : decode cX5_fray 31 = .ok (.ireturn, 1) := by decide +kernel
theorem dX5_frayed_0 : decode cX5_frayed 0 = .ok (.iconst 0, 1) := by decide +kernel
theorem dX5_frayed_1 : decode cX5_frayed 1 = .ok (.istore_n 2, 1) := by decide +kernel
theorem dX5_frayed_2 : decode cX5_frayed 2 = .ok (.aload_n 0, 1) := by decide +kernel
theorem dX5_frayed_3 : decode cX5_frayed 3 = .ok (.getfield 15, 3) := by decide +kernel
theorem dX5_frayed_6 : decode cX5_frayed 6 = .ok (.astore_n 3, 1) := by decide +kernel
theorem dX5_frayed_7 : decode cX5_frayed 7 = .ok (.aload_n 3, 1) := by decide +kernel
theorem dX5_frayed_8 : decode cX5_frayed 8 = .ok (.arraylength, 1) := by decide +kernel
theorem dX5_frayed_9 : decode cX5_frayed 9 = .ok (.istore 4, 2) := by decide +kernel
theorem dX5_frayed_11 : decode cX5_frayed 11 = .ok (.iconst 0, 1) := by decide +kernel
theorem dX5_frayed_12 : decode cX5_frayed 12 = .ok (.istore 5, 2) := by decide +kernel
theorem dX5_frayed_14 : decode cX5_frayed 14 = .ok (.iload 5, 2) := by decide +kernel
theorem dX5_frayed_16 : decode cX5_frayed 16 = .ok (.iload 4, 2) := by decide +kernel
theorem dX5_frayed_18 : decode cX5_frayed 18 = .ok (.if_icmp .ge 36, 3) := by decide +kernel
theorem dX5_frayed_21 : decode cX5_frayed 21 = .ok (.aload_n 3, 1) := by decide +kernel
theorem dX5_frayed_22 : decode cX5_frayed 22 = .ok (.iload 5, 2) := by decide +kernel
theorem dX5_frayed_24 : decode cX5_frayed 24 = .ok (.aaload, 1) := by decide +kernel
theorem dX5_frayed_25 : decode cX5_frayed 25 = .ok (.astore 6, 2) := by decide +kernel
theorem dX5_frayed_27 : decode cX5_frayed 27 = .ok (.iload_n 1, 1) := by decide +kernel
theorem dX5_frayed_28 : decode cX5_frayed 28 = .ok (.ifCond .ne 11, 3) := by decide +kernel
theorem dX5_frayed_31 : decode cX5_frayed 31 = .ok (.aload 6, 2) := by decide +kernel
theorem dX5_frayed_33 : decode cX5_frayed 33 = .ok (.bipush 7, 2) := by decide +kernel
theorem dX5_frayed_35 : decode cX5_frayed 35 = .ok (.iaload, 1) := by decide +kernel
theorem dX5_frayed_36 : decode cX5_frayed 36 = .ok (.ifCond .lt 12, 3) := by decide +kernel
theorem dX5_frayed_39 : decode cX5_frayed 39 = .ok (.iload_n 2, 1) := by decide +kernel
theorem dX5_frayed_40 : decode cX5_frayed 40 = .ok (.aload_n 0, 1) := by decide +kernel
theorem dX5_frayed_41 : decode cX5_frayed 41 = .ok (.aload 6, 2) := by decide +kernel
theorem dX5_frayed_43 : decode cX5_frayed 43 = .ok (.invokevirtual 59, 3) := by decide +kernel
theorem dX5_frayed_46 : decode cX5_frayed 46 = .ok (.iadd, 1) := by decide +kernel
theorem dX5_frayed_47 : decode cX5_frayed 47 = .ok (.istore_n 2, 1) := by decide +kernel
theorem dX5_frayed_48 : decode cX5_frayed 48 = .ok (.iinc 5 1, 3) := by decide +kernel
theorem dX5_frayed_51 : decode cX5_frayed 51 = .ok (.goto (-37), 3) := by decide +kernel
theorem dX5_frayed_54 : decode cX5_frayed 54 = .ok (.iload_n 2, 1) := by decide +kernel
theorem dX5_frayed_55 : decode cX5_frayed 55 = .ok (.ireturn, 1) := by decide +kernel
theorem dX5_tourist_0 : decode cX5_tourist 0 = .ok (.bipush 9, 2) := by decide +kernel
theorem dX5_tourist_2 : decode cX5_tourist 2 = .ok (.newarray .int, 2) := by decide +kernel
theorem dX5_tourist_4 : decode cX5_tourist 4 = .ok (.dup, 1) := by decide +kernel
theorem dX5_tourist_5 : decode cX5_tourist 5 = .ok (.iconst 0, 1) := by decide +kernel
theorem dX5_tourist_6 : decode cX5_tourist 6 = .ok (.iload_n 1, 1) := by decide +kernel
theorem dX5_tourist_7 : decode cX5_tourist 7 = .ok (.iastore, 1) := by decide +kernel
theorem dX5_tourist_8 : decode cX5_tourist 8 = .ok (.dup, 1) := by decide +kernel
theorem dX5_tourist_9 : decode cX5_tourist 9 = .ok (.iconst 1, 1) := by decide +kernel
theorem dX5_tourist_10 : decode cX5_tourist 10 = .ok (.iconst (-1), 1) := by decide +kernel
theorem dX5_tourist_11 : decode cX5_tourist 11 = .ok (.iastore, 1) := by decide +kernel
theorem dX5_tourist_12 : decode cX5_tourist 12 = .ok (.dup, 1) := by decide +kernel
theorem dX5_tourist_13 : decode cX5_tourist 13 = .ok (.iconst 2, 1) := by decide +kernel
theorem dX5_tourist_14 : decode cX5_tourist 14 = .ok (.iconst 0, 1) := by decide +kernel
theorem dX5_tourist_15 : decode cX5_tourist 15 = .ok (.iastore, 1) := by decide +kernel
theorem dX5_tourist_16 : decode cX5_tourist 16 = .ok (.dup, 1) := by decide +kernel
theorem dX5_tourist_17 : decode cX5_tourist 17 = .ok (.iconst 3, 1) := by decide +kernel
theorem dX5_tourist_18 : decode cX5_tourist 18 = .ok (.iconst 0, 1) := by decide +kernel
theorem dX5_tourist_19 : decode cX5_tourist 19 = .ok (.iastore, 1) := by decide +kernel
theorem dX5_tourist_20 : decode cX5_tourist 20 = .ok (.dup, 1) := by decide +kernel
theorem dX5_tourist_21 : decode cX5_tourist 21 = .ok (.iconst 4, 1) := by decide +kernel
theorem dX5_tourist_22 : decode cX5_tourist 22 = .ok (.iload_n 2, 1) := by decide +kernel
theorem dX5_tourist_23 : decode cX5_tourist 23 = .ok (.iastore, 1) := by decide +kernel
theorem dX5_tourist_24 : decode cX5_tourist 24 = .ok (.dup, 1) := by decide +kernel
theorem dX5_tourist_25 : decode cX5_tourist 25 = .ok (.iconst 5, 1) := by decide +kernel
theorem dX5_tourist_26 : decode cX5_tourist 26 = .ok (.aload_n 0, 1) := by decide +kernel
theorem dX5_tourist_27 : decode cX5_tourist 27 = .ok (.getfield 42, 3) := by decide +kernel
theorem dX5_tourist_30 : decode cX5_tourist 30 = .ok (.iastore, 1) := by decide +kernel
theorem dX5_tourist_31 : decode cX5_tourist 31 = .ok (.dup, 1) := by decide +kernel
theorem dX5_tourist_32 : decode cX5_tourist 32 = .ok (.bipush 6, 2) := by decide +kernel
theorem dX5_tourist_34 : decode cX5_tourist 34 = .ok (.aload_n 0, 1) := by decide +kernel
theorem dX5_tourist_35 : decode cX5_tourist 35 = .ok (.iload_n 1, 1) := by decide +kernel
theorem dX5_tourist_36 : decode cX5_tourist 36 = .ok (.iconst 1, 1) := by decide +kernel
theorem dX5_tourist_37 : decode cX5_tourist 37 = .ok (.invokevirtual 32, 3) := by decide +kernel
theorem dX5_tourist_40 : decode cX5_tourist 40 = .ok (.iload_n 2, 1) := by decide +kernel
theorem dX5_tourist_41 : decode cX5_tourist 41 = .ok (.iaload, 1) := by decide +kernel
theorem dX5_tourist_42 : decode cX5_tourist 42 = .ok (.iastore, 1) := by decide +kernel
theorem dX5_tourist_43 : decode cX5_tourist 43 = .ok (.dup, 1) := by decide +kernel
theorem dX5_tourist_44 : decode cX5_tourist 44 = .ok (.bipush 7, 2) := by decide +kernel
theorem dX5_tourist_46 : decode cX5_tourist 46 = .ok (.iconst (-1), 1) := by decide +kernel
theorem dX5_tourist_47 : decode cX5_tourist 47 = .ok (.iastore, 1) := by decide +kernel
theorem dX5_tourist_48 : decode cX5_tourist 48 = .ok (.dup, 1) := by decide +kernel
theorem dX5_tourist_49 : decode cX5_tourist 49 = .ok (.bipush 8, 2) := by decide +kernel
theorem dX5_tourist_51 : decode cX5_tourist 51 = .ok (.iconst (-1), 1) := by decide +kernel
theorem dX5_tourist_52 : decode cX5_tourist 52 = .ok (.iastore, 1) := by decide +kernel
theorem dX5_tourist_53 : decode cX5_tourist 53 = .ok (.areturn, 1) := by decide +kernel
theorem dX5_isSame_0 : decode cX5_isSame 0 = .ok (.aload_n 0, 1) := by decide +kernel
theorem dX5_isSame_1 : decode cX5_isSame 1 = .ok (.getfield 9, 3) := by decide +kernel
theorem dX5_isSame_4 : decode cX5_isSame 4 = .ok (.arraylength, 1) := by decide +kernel
theorem dX5_isSame_5 : decode cX5_isSame 5 = .ok (.istore_n 2, 1) := by decide +kernel
theorem dX5_isSame_6 : decode cX5_isSame 6 = .ok (.aload_n 1, 1) := by decide +kernel
theorem dX5_isSame_7 : decode cX5_isSame 7 = .ok (.invokevirtual 67, 3) := by decide +kernel
theorem dX5_isSame_10 : decode cX5_isSame 10 = .ok (.aload_n 0, 1) := by decide +kernel
theorem dX5_isSame_11 : decode cX5_isSame 11 = .ok (.getfield 42, 3) := by decide +kernel
theorem dX5_isSame_14 : decode cX5_isSame 14 = .ok (.if_icmp .ne 57, 3) := by decide +kernel
theorem dX5_isSame_17 : decode cX5_isSame 17 = .ok (.aload_n 1, 1) := by decide +kernel
theorem dX5_isSame_18 : decode cX5_isSame 18 = .ok (.invokevirtual 71, 3) := by decide +kernel
theorem dX5_isSame_21 : decode cX5_isSame 21 = .ok (.aload_n 0, 1) := by decide +kernel
theorem dX5_isSame_22 : decode cX5_isSame 22 = .ok (.getfield 18, 3) := by decide +kernel
theorem dX5_isSame_25 : decode cX5_isSame 25 = .ok (.if_icmp .ne 46, 3) := by decide +kernel
theorem dX5_isSame_28 : decode cX5_isSame 28 = .ok (.aload_n 1, 1) := by decide +kernel
theorem dX5_isSame_29 : decode cX5_isSame 29 = .ok (.invokevirtual 73, 3) := by decide +kernel
theorem dX5_isSame_32 : decode cX5_isSame 32 = .ok (.iload_n 2, 1) := by decide +kernel
theorem dX5_isSame_33 : decode cX5_isSame 33 = .ok (.if_icmp .ne 38, 3) := by decide +kernel
theorem dX5_isSame_36 : decode cX5_isSame 36 = .ok (.aload_n 1, 1) := by decide +kernel
theorem dX5_isSame_37 : decode cX5_isSame 37 = .ok (.invokevirtual 75, 3) := by decide +kernel
theorem dX5_isSame_40 : decode cX5_isSame 40 = .ok (.aload_n 0, 1) := by decide +kernel
theorem dX5_isSame_41 : decode cX5_isSame 41 = .ok (.getfield 15, 3) := by decide +kernel
theorem dX5_isSame_44 : decode cX5_isSame 44 = .ok (.arraylength, 1) := by decide +kernel
theorem dX5_isSame_45 : decode cX5_isSame 45 = .ok (.if_icmp .ne 26, 3) := by decide +kernel
theorem dX5_isSame_48 : decode cX5_isSame 48 = .ok (.aload_n 1, 1) := by decide +kernel
theorem dX5_isSame_49 : decode cX5_isSame 49 = .ok (.invokevirtual 77, 3) := by decide +kernel
theorem dX5_isSame_52 : decode cX5_isSame 52 = .ok (.aload_n 0, 1) := by decide +kernel
theorem dX5_isSame_53 : decode cX5_isSame 53 = .ok (.invokevirtual 49, 3) := by decide +kernel
theorem dX5_isSame_56 : decode cX5_isSame 56 = .ok (.if_icmp .ne 15, 3) := by decide +kernel
theorem dX5_isSame_59 : decode cX5_isSame 59 = .ok (.aload_n 1, 1) := by decide +kernel
theorem dX5_isSame_60 : decode cX5_isSame 60 = .ok (.invokevirtual 78, 3) := by decide +kernel
theorem dX5_isSame_63 : decode cX5_isSame 63 = .ok (.aload_n 0, 1) := by decide +kernel
theorem dX5_isSame_64 : decode cX5_isSame 64 = .ok (.iconst 0, 1) := by decide +kernel
theorem dX5_isSame_65 : decode cX5_isSame 65 = .ok (.invokevirtual 81, 3) := by decide +kernel
theorem dX5_isSame_68 : decode cX5_isSame 68 = .ok (.if_icmp .eq 5, 3) := by decide +kernel
theorem dX5_isSame_71 : decode cX5_isSame 71 = .ok (.iconst 0, 1) := by decide +kernel
theorem dX5_isSame_72 : decode cX5_isSame 72 = .ok (.ireturn, 1) := by decide +kernel
theorem dX5_isSame_73 : decode cX5_isSame 73 = .ok (.iconst 0, 1) := by decide +kernel
theorem dX5_isSame_74 : decode cX5_isSame 74 = .ok (.istore_n 3, 1) := by decide +kernel
theorem dX5_isSame_75 : decode cX5_isSame 75 = .ok (.iconst (-1), 1) := by decide +kernel
theorem dX5_isSame_76 : decode cX5_isSame 76 = .ok (.istore 4, 2) := by decide +kernel
theorem dX5_isSame_78 : decode cX5_isSame 78 = .ok (.iconst 0, 1) := by decide +kernel
theorem dX5_isSame_79 : decode cX5_isSame 79 = .ok (.istore 5, 2) := by decide +kernel
theorem dX5_isSame_81 : decode cX5_isSame 81 = .ok (.iconst 0, 1) := by decide +kernel
theorem dX5_isSame_82 : decode cX5_isSame 82 = .ok (.istore 6, 2) := by decide +kernel
theorem dX5_isSame_84 : decode cX5_isSame 84 = .ok (.iload 6, 2) := by decide +kernel
theorem dX5_isSame_86 : decode cX5_isSame 86 = .ok (.iload_n 2, 1) := by decide +kernel
theorem dX5_isSame_87 : decode cX5_isSame 87 = .ok (.if_icmp .ge 146, 3) := by decide +kernel
theorem dX5_isSame_90 : decode cX5_isSame 90 = .ok (.aload_n 0, 1) := by decide +kernel
theorem dX5_isSame_91 : decode cX5_isSame 91 = .ok (.getfield 9, 3) := by decide +kernel
theorem dX5_isSame_94 : decode cX5_isSame 94 = .ok (.iload 6, 2) := by decide +kernel
theorem dX5_isSame_96 : decode cX5_isSame 96 = .ok (.aaload, 1) := by decide +kernel
theorem dX5_isSame_97 : decode cX5_isSame 97 = .ok (.astore 7, 2) := by decide +kernel
theorem dX5_isSame_99 : decode cX5_isSame 99 = .ok (.iload_n 3, 1) := by decide +kernel
theorem dX5_isSame_100 : decode cX5_isSame 100 = .ok (.aload 7, 2) := by decide +kernel
theorem dX5_isSame_102 : decode cX5_isSame 102 = .ok (.iconst 4, 1) := by decide +kernel
theorem dX5_isSame_103 : decode cX5_isSame 103 = .ok (.iaload, 1) := by decide +kernel
theorem dX5_isSame_104 : decode cX5_isSame 104 = .ok (.ifCond .le 7, 3) := by decide +kernel
theorem dX5_isSame_107 : decode cX5_isSame 107 = .ok (.iconst 1, 1) := by decide +kernel
theorem dX5_isSame_108 : decode cX5_isSame 108 = .ok (.goto 4, 3) := by decide +kernel
theorem dX5_isSame_111 : decode cX5_isSame 111 = .ok (.iconst 0, 1) := by decide +kernel
theorem dX5_isSame_112 : decode cX5_isSame 112 = .ok (.iadd, 1) := by decide +kernel
theorem dX5_isSame_113 : decode cX5_isSame 113 = .ok (.istore_n 3, 1) := by decide +kernel
theorem dX5_isSame_114 : decode cX5_isSame 114 = .ok (.iload 5, 2) := by decide +kernel
theorem dX5_isSame_116 : decode cX5_isSame 116 = .ok (.aload 7, 2) := by decide +kernel
theorem dX5_isSame_118 : decode cX5_isSame 118 = .ok (.invokestatic 22, 3) := by decide +kernel
theorem dX5_isSame_121 : decode cX5_isSame 121 = .ok (.iadd, 1) := by decide +kernel
theorem dX5_isSame_122 : decode cX5_isSame 122 = .ok (.istore 5, 2) := by decide +kernel
theorem dX5_isSame_124 : decode cX5_isSame 124 = .ok (.aload 7, 2) := by decide +kernel
theorem dX5_isSame_126 : decode cX5_isSame 126 = .ok (.iconst 4, 1) := by decide +kernel
theorem dX5_isSame_127 : decode cX5_isSame 127 = .ok (.iaload, 1) := by decide +kernel
theorem dX5_isSame_128 : decode cX5_isSame 128 = .ok (.ifCond .ne 28, 3) := by decide +kernel
theorem dX5_isSame_131 : decode cX5_isSame 131 = .ok (.iload 4, 2) := by decide +kernel
theorem dX5_isSame_133 : decode cX5_isSame 133 = .ok (.ifCond .lt 19, 3) := by decide +kernel
theorem dX5_isSame_136 : decode cX5_isSame 136 = .ok (.aload 7, 2) := by decide +kernel
theorem dX5_isSame_138 : decode cX5_isSame 138 = .ok (.iconst 5, 1) := by decide +kernel
theorem dX5_isSame_139 : decode cX5_isSame 139 = .ok (.iaload, 1) := by decide +kernel
theorem dX5_isSame_140 : decode cX5_isSame 140 = .ok (.aload_n 0, 1) := by decide +kernel
theorem dX5_isSame_141 : decode cX5_isSame 141 = .ok (.getfield 9, 3) := by decide +kernel
theorem dX5_isSame_144 : decode cX5_isSame 144 = .ok (.iload 4, 2) := by decide +kernel
theorem dX5_isSame_146 : decode cX5_isSame 146 = .ok (.aaload, 1) := by decide +kernel
theorem dX5_isSame_147 : decode cX5_isSame 147 = .ok (.iconst 5, 1) := by decide +kernel
theorem dX5_isSame_148 : decode cX5_isSame 148 = .ok (.iaload, 1) := by decide +kernel
theorem dX5_isSame_149 : decode cX5_isSame 149 = .ok (.if_icmp .le 7, 3) := by decide +kernel
theorem dX5_isSame_152 : decode cX5_isSame 152 = .ok (.iload 6, 2) := by decide +kernel
theorem dX5_isSame_154 : decode cX5_isSame 154 = .ok (.istore 4, 2) := by decide +kernel
theorem dX5_isSame_156 : decode cX5_isSame 156 = .ok (.aload_n 1, 1) := by decide +kernel
theorem dX5_isSame_157 : decode cX5_isSame 157 = .ok (.iload 6, 2) := by decide +kernel
theorem dX5_isSame_159 : decode cX5_isSame 159 = .ok (.invokevirtual 85, 3) := by decide +kernel
theorem dX5_isSame_162 : decode cX5_isSame 162 = .ok (.aload 7, 2) := by decide +kernel
theorem dX5_isSame_164 : decode cX5_isSame 164 = .ok (.invokestatic 22, 3) := by decide +kernel
theorem dX5_isSame_167 : decode cX5_isSame 167 = .ok (.if_icmp .ne 58, 3) := by decide +kernel
theorem dX5_isSame_170 : decode cX5_isSame 170 = .ok (.aload_n 1, 1) := by decide +kernel
theorem dX5_isSame_171 : decode cX5_isSame 171 = .ok (.iload 6, 2) := by decide +kernel
theorem dX5_isSame_173 : decode cX5_isSame 173 = .ok (.invokevirtual 88, 3) := by decide +kernel
theorem dX5_isSame_176 : decode cX5_isSame 176 = .ok (.aload 7, 2) := by decide +kernel
theorem dX5_isSame_178 : decode cX5_isSame 178 = .ok (.iconst 5, 1) := by decide +kernel
theorem dX5_isSame_179 : decode cX5_isSame 179 = .ok (.iaload, 1) := by decide +kernel
theorem dX5_isSame_180 : decode cX5_isSame 180 = .ok (.if_icmp .ne 45, 3) := by decide +kernel
theorem dX5_isSame_183 : decode cX5_isSame 183 = .ok (.aload_n 1, 1) := by decide +kernel
theorem dX5_isSame_184 : decode cX5_isSame 184 = .ok (.iload 6, 2) := by decide +kernel
theorem dX5_isSame_186 : decode cX5_isSame 186 = .ok (.invokevirtual 91, 3) := by decide +kernel
theorem dX5_isSame_189 : decode cX5_isSame 189 = .ok (.aload 7, 2) := by decide +kernel
theorem dX5_isSame_191 : decode cX5_isSame 191 = .ok (.bipush 6, 2) := by decide +kernel
theorem dX5_isSame_193 : decode cX5_isSame 193 = .ok (.iaload, 1) := by decide +kernel
theorem dX5_isSame_194 : decode cX5_isSame 194 = .ok (.if_icmp .ne 31, 3) := by decide +kernel
theorem dX5_isSame_197 : decode cX5_isSame 197 = .ok (.aload_n 1, 1) := by decide +kernel
theorem dX5_isSame_198 : decode cX5_isSame 198 = .ok (.iload 6, 2) := by decide +kernel
theorem dX5_isSame_200 : decode cX5_isSame 200 = .ok (.invokevirtual 94, 3) := by decide +kernel
theorem dX5_isSame_203 : decode cX5_isSame 203 = .ok (.aload 7, 2) := by decide +kernel
theorem dX5_isSame_205 : decode cX5_isSame 205 = .ok (.iconst 4, 1) := by decide +kernel
theorem dX5_isSame_206 : decode cX5_isSame 206 = .ok (.iaload, 1) := by decide +kernel
theorem dX5_isSame_207 : decode cX5_isSame 207 = .ok (.if_icmp .ne 18, 3) := by decide +kernel
theorem dX5_isSame_210 : decode cX5_isSame 210 = .ok (.aload_n 1, 1) := by decide +kernel
theorem dX5_isSame_211 : decode cX5_isSame 211 = .ok (.iload 6, 2) := by decide +kernel
theorem dX5_isSame_213 : decode cX5_isSame 213 = .ok (.invokevirtual 97, 3) := by decide +kernel
theorem dX5_isSame_216 : decode cX5_isSame 216 = .ok (.aload_n 0, 1) := by decide +kernel
theorem dX5_isSame_217 : decode cX5_isSame 217 = .ok (.iload 6, 2) := by decide +kernel
theorem dX5_isSame_219 : decode cX5_isSame 219 = .ok (.invokevirtual 45, 3) := by decide +kernel
theorem dX5_isSame_222 : decode cX5_isSame 222 = .ok (.if_icmp .eq 5, 3) := by decide +kernel
theorem dX5_isSame_225 : decode cX5_isSame 225 = .ok (.iconst 0, 1) := by decide +kernel
theorem dX5_isSame_226 : decode cX5_isSame 226 = .ok (.ireturn, 1) := by decide +kernel
theorem dX5_isSame_227 : decode cX5_isSame 227 = .ok (.iinc 6 1, 3) := by decide +kernel
theorem dX5_isSame_230 : decode cX5_isSame 230 = .ok (.goto (-146), 3) := by decide +kernel
theorem dX5_isSame_233 : decode cX5_isSame 233 = .ok (.iconst 0, 1) := by decide +kernel
theorem dX5_isSame_234 : decode cX5_isSame 234 = .ok (.istore 6, 2) := by decide +kernel
theorem dX5_isSame_236 : decode cX5_isSame 236 = .ok (.iload 6, 2) := by decide +kernel
theorem dX5_isSame_238 : decode cX5_isSame 238 = .ok (.aload_n 0, 1) := by decide +kernel
theorem dX5_isSame_239 : decode cX5_isSame 239 = .ok (.getfield 15, 3) := by decide +kernel
theorem dX5_isSame_242 : decode cX5_isSame 242 = .ok (.arraylength, 1) := by decide +kernel
theorem dX5_isSame_243 : decode cX5_isSame 243 = .ok (.if_icmp .ge 96, 3) := by decide +kernel
theorem dX5_isSame_246 : decode cX5_isSame 246 = .ok (.aload_n 0, 1) := by decide +kernel
theorem dX5_isSame_247 : decode cX5_isSame 247 = .ok (.getfield 15, 3) := by decide +kernel
theorem dX5_isSame_250 : decode cX5_isSame 250 = .ok (.iload 6, 2) := by decide +kernel
theorem dX5_isSame_252 : decode cX5_isSame 252 = .ok (.aaload, 1) := by decide +kernel
theorem dX5_isSame_253 : decode cX5_isSame 253 = .ok (.astore 7, 2) := by decide +kernel
theorem dX5_isSame_255 : decode cX5_isSame 255 = .ok (.aload_n 1, 1) := by decide +kernel
theorem dX5_isSame_256 : decode cX5_isSame 256 = .ok (.iload 6, 2) := by decide +kernel
theorem dX5_isSame_258 : decode cX5_isSame 258 = .ok (.invokevirtual 100, 3) := by decide +kernel
theorem dX5_isSame_261 : decode cX5_isSame 261 = .ok (.aload 7, 2) := by decide +kernel
theorem dX5_isSame_263 : decode cX5_isSame 263 = .ok (.iconst 0, 1) := by decide +kernel
theorem dX5_isSame_264 : decode cX5_isSame 264 = .ok (.iaload, 1) := by decide +kernel
theorem dX5_isSame_265 : decode cX5_isSame 265 = .ok (.if_icmp .ne 66, 3) := by decide +kernel
theorem dX5_isSame_268 : decode cX5_isSame 268 = .ok (.aload_n 1, 1) := by decide +kernel
theorem dX5_isSame_269 : decode cX5_isSame 269 = .ok (.iload 6, 2) := by decide +kernel
theorem dX5_isSame_271 : decode cX5_isSame 271 = .ok (.invokevirtual 103, 3) := by decide +kernel
theorem dX5_isSame_274 : decode cX5_isSame 274 = .ok (.aload 7, 2) := by decide +kernel
theorem dX5_isSame_276 : decode cX5_isSame 276 = .ok (.iconst 1, 1) := by decide +kernel
theorem dX5_isSame_277 : decode cX5_isSame 277 = .ok (.iaload, 1) := by decide +kernel
theorem dX5_isSame_278 : decode cX5_isSame 278 = .ok (.if_icmp .ne 53, 3) := by decide +kernel
theorem dX5_isSame_281 : decode cX5_isSame 281 = .ok (.aload_n 1, 1) := by decide +kernel
theorem dX5_isSame_282 : decode cX5_isSame 282 = .ok (.iload 6, 2) := by decide +kernel
theorem dX5_isSame_284 : decode cX5_isSame 284 = .ok (.invokevirtual 106, 3) := by decide +kernel
theorem dX5_isSame_287 : decode cX5_isSame 287 = .ok (.aload 7, 2) := by decide +kernel
theorem dX5_isSame_289 : decode cX5_isSame 289 = .ok (.iconst 3, 1) := by decide +kernel
theorem dX5_isSame_290 : decode cX5_isSame 290 = .ok (.iaload, 1) := by decide +kernel
theorem dX5_isSame_291 : decode cX5_isSame 291 = .ok (.if_icmp .ne 40, 3) := by decide +kernel
theorem dX5_isSame_294 : decode cX5_isSame 294 = .ok (.aload_n 1, 1) := by decide +kernel
theorem dX5_isSame_295 : decode cX5_isSame 295 = .ok (.iload 6, 2) := by decide +kernel
theorem dX5_isSame_297 : decode cX5_isSame 297 = .ok (.invokevirtual 109, 3) := by decide +kernel
theorem dX5_isSame_300 : decode cX5_isSame 300 = .ok (.aload_n 0, 1) := by decide +kernel
theorem dX5_isSame_301 : decode cX5_isSame 301 = .ok (.aload 7, 2) := by decide +kernel
theorem dX5_isSame_303 : decode cX5_isSame 303 = .ok (.invokevirtual 59, 3) := by decide +kernel
theorem dX5_isSame_306 : decode cX5_isSame 306 = .ok (.if_icmp .ne 25, 3) := by decide +kernel
theorem dX5_isSame_309 : decode cX5_isSame 309 = .ok (.aload_n 1, 1) := by decide +kernel
theorem dX5_isSame_310 : decode cX5_isSame 310 = .ok (.iload 6, 2) := by decide +kernel
theorem dX5_isSame_312 : decode cX5_isSame 312 = .ok (.invokevirtual 112, 3) := by decide +kernel
theorem dX5_isSame_315 : decode cX5_isSame 315 = .ok (.aload 7, 2) := by decide +kernel
theorem dX5_isSame_317 : decode cX5_isSame 317 = .ok (.bipush 7, 2) := by decide +kernel
theorem dX5_isSame_319 : decode cX5_isSame 319 = .ok (.iaload, 1) := by decide +kernel
theorem dX5_isSame_320 : decode cX5_isSame 320 = .ok (.ifCond .lt 7, 3) := by decide +kernel
theorem dX5_isSame_323 : decode cX5_isSame 323 = .ok (.iconst 1, 1) := by decide +kernel
theorem dX5_isSame_324 : decode cX5_isSame 324 = .ok (.goto 4, 3) := by decide +kernel
theorem dX5_isSame_327 : decode cX5_isSame 327 = .ok (.iconst 0, 1) := by decide +kernel
theorem dX5_isSame_328 : decode cX5_isSame 328 = .ok (.if_icmp .eq 5, 3) := by decide +kernel
theorem dX5_isSame_331 : decode cX5_isSame 331 = .ok (.iconst 0, 1) := by decide +kernel
theorem dX5_isSame_332 : decode cX5_isSame 332 = .ok (.ireturn, 1) := by decide +kernel
theorem dX5_isSame_333 : decode cX5_isSame 333 = .ok (.iinc 6 1, 3) := by decide +kernel
theorem dX5_isSame_336 : decode cX5_isSame 336 = .ok (.goto (-100), 3) := by decide +kernel
theorem dX5_isSame_339 : decode cX5_isSame 339 = .ok (.aload_n 1, 1) := by decide +kernel
theorem dX5_isSame_340 : decode cX5_isSame 340 = .ok (.invokevirtual 116, 3) := by decide +kernel
theorem dX5_isSame_343 : decode cX5_isSame 343 = .ok (.iload_n 3, 1) := by decide +kernel
theorem dX5_isSame_344 : decode cX5_isSame 344 = .ok (.if_icmp .ne 38, 3) := by decide +kernel
theorem dX5_isSame_347 : decode cX5_isSame 347 = .ok (.aload_n 1, 1) := by decide +kernel
theorem dX5_isSame_348 : decode cX5_isSame 348 = .ok (.invokevirtual 119, 3) := by decide +kernel
theorem dX5_isSame_351 : decode cX5_isSame 351 = .ok (.iload 4, 2) := by decide +kernel
theorem dX5_isSame_353 : decode cX5_isSame 353 = .ok (.if_icmp .ne 29, 3) := by decide +kernel
theorem dX5_isSame_356 : decode cX5_isSame 356 = .ok (.aload_n 1, 1) := by decide +kernel
theorem dX5_isSame_357 : decode cX5_isSame 357 = .ok (.invokevirtual 122, 3) := by decide +kernel
theorem dX5_isSame_360 : decode cX5_isSame 360 = .ok (.iload_n 2, 1) := by decide +kernel
theorem dX5_isSame_361 : decode cX5_isSame 361 = .ok (.ifCond .ne 7, 3) := by decide +kernel
theorem dX5_isSame_364 : decode cX5_isSame 364 = .ok (.dconst 0, 1) := by decide +kernel
theorem dX5_isSame_365 : decode cX5_isSame 365 = .ok (.goto 9, 3) := by decide +kernel
theorem dX5_isSame_368 : decode cX5_isSame 368 = .ok (.iload 5, 2) := by decide +kernel
theorem dX5_isSame_370 : decode cX5_isSame 370 = .ok (.i2d, 1) := by decide +kernel
theorem dX5_isSame_371 : decode cX5_isSame 371 = .ok (.iload_n 2, 1) := by decide +kernel
theorem dX5_isSame_372 : decode cX5_isSame 372 = .ok (.i2d, 1) := by decide +kernel
theorem dX5_isSame_373 : decode cX5_isSame 373 = .ok (.ddiv, 1) := by decide +kernel
theorem dX5_isSame_374 : decode cX5_isSame 374 = .ok (.dcmp .l, 1) := by decide +kernel
theorem dX5_isSame_375 : decode cX5_isSame 375 = .ok (.ifCond .ne 7, 3) := by decide +kernel
theorem dX5_isSame_378 : decode cX5_isSame 378 = .ok (.iconst 1, 1) := by decide +kernel
theorem dX5_isSame_379 : decode cX5_isSame 379 = .ok (.goto 4, 3) := by decide +kernel
theorem dX5_isSame_382 : decode cX5_isSame 382 = .ok (.iconst 0, 1) := by decide +kernel
theorem dX5_isSame_383 : decode cX5_isSame 383 = .ok (.ireturn, 1) := by decide +kernel
theorem dJ9_max_7cf53_0 : decode cJ9_max_7cf53 0 = .ok (.iload_n 0, 1) := by decide +kernel
theorem dJ9_max_7cf53_1 : decode cJ9_max_7cf53 1 = .ok (.iload_n 1, 1) := by decide +kernel
theorem dJ9_max_7cf53_2 : decode cJ9_max_7cf53 2 = .ok (.if_icmp .lt 7, 3) := by decide +kernel
theorem dJ9_max_7cf53_5 : decode cJ9_max_7cf53 5 = .ok (.iload_n 0, 1) := by decide +kernel
theorem dJ9_max_7cf53_6 : decode cJ9_max_7cf53 6 = .ok (.goto 4, 3) := by decide +kernel
theorem dJ9_max_7cf53_9 : decode cJ9_max_7cf53 9 = .ok (.iload_n 1, 1) := by decide +kernel
theorem dJ9_max_7cf53_10 : decode cJ9_max_7cf53 10 = .ok (.ireturn, 1) := by decide +kernel
theorem dJ9_min_7cf53_0 : decode cJ9_min_7cf53 0 = .ok (.iload_n 0, 1) := by decide +kernel
theorem dJ9_min_7cf53_1 : decode cJ9_min_7cf53 1 = .ok (.iload_n 1, 1) := by decide +kernel
theorem dJ9_min_7cf53_2 : decode cJ9_min_7cf53 2 = .ok (.if_icmp .gt 7, 3) := by decide +kernel
theorem dJ9_min_7cf53_5 : decode cJ9_min_7cf53 5 = .ok (.iload_n 0, 1) := by decide +kernel
theorem dJ9_min_7cf53_6 : decode cJ9_min_7cf53 6 = .ok (.goto 4, 3) := by decide +kernel
theorem dJ9_min_7cf53_9 : decode cJ9_min_7cf53 9 = .ok (.iload_n 1, 1) := by decide +kernel
theorem dJ9_min_7cf53_10 : decode cJ9_min_7cf53 10 = .ok (.ireturn, 1) := by decide +kernel
theorem dL_below_0 : decode cL_below 0 = .ok (.iload_n 0, 1) := by decide +kernel
theorem dL_below_1 : decode cL_below 1 = .ok (.ldc 7, 2) := by decide +kernel
theorem dL_below_3 : decode cL_below 3 = .ok (.iand, 1) := by decide +kernel
theorem dL_below_4 : decode cL_below 4 = .ok (.iload_n 1, 1) := by decide +kernel
theorem dL_below_5 : decode cL_below 5 = .ok (.irem, 1) := by decide +kernel
theorem dL_below_6 : decode cL_below 6 = .ok (.ireturn, 1) := by decide +kernel
theorem dL_cell_0 : decode cL_cell 0 = .ok (.iload_n 1, 1) := by decide +kernel
theorem dL_cell_1 : decode cL_cell 1 = .ok (.aload_n 0, 1) := by decide +kernel
theorem dL_cell_2 : decode cL_cell 2 = .ok (.arraylength, 1) := by decide +kernel
theorem dL_cell_3 : decode cL_cell 3 = .ok (.if_icmp .ge 9, 3) := by decide +kernel
theorem dL_cell_6 : decode cL_cell 6 = .ok (.aload_n 0, 1) := by decide +kernel
theorem dL_cell_7 : decode cL_cell 7 = .ok (.iload_n 1, 1) := by decide +kernel
theorem dL_cell_8 : decode cL_cell 8 = .ok (.iaload, 1) := by decide +kernel
theorem dL_cell_9 : decode cL_cell 9 = .ok (.goto 9, 3) := by decide +kernel
theorem dL_cell_12 : decode cL_cell 12 = .ok (.ldc 8, 2) := by decide +kernel
theorem dL_cell_14 : decode cL_cell 14 = .ok (.iload_n 1, 1) := by decide +kernel
theorem dL_cell_15 : decode cL_cell 15 = .ok (.iconst 3, 1) := by decide +kernel
theorem dL_cell_16 : decode cL_cell 16 = .ok (.iadd, 1) := by decide +kernel
theorem dL_cell_17 : decode cL_cell 17 = .ok (.imul, 1) := by decide +kernel
theorem dL_cell_18 : decode cL_cell 18 = .ok (.ireturn, 1) := by decide +kernel
theorem dL_act_0 : decode cL_act 0 = .ok (.aload_n 1, 1) := by decide +kernel
theorem dL_act_1 : decode cL_act 1 = .ok (.getfield 9, 3) := by decide +kernel
theorem dL_act_4 : decode cL_act 4 = .ok (.istore_n 3, 1) := by decide +kernel
theorem dL_act_5 : decode cL_act 5 = .ok (.aload_n 1, 1) := by decide +kernel
theorem dL_act_6 : decode cL_act 6 = .ok (.getfield 15, 3) := by decide +kernel
theorem dL_act_9 : decode cL_act 9 = .ok (.arraylength, 1) := by decide +kernel
theorem dL_act_10 : decode cL_act 10 = .ok (.istore 4, 2) := by decide +kernel
theorem dL_act_12 : decode cL_act 12 = .ok (.aload_n 1, 1) := by decide +kernel
theorem dL_act_13 : decode cL_act 13 = .ok (.getfield 19, 3) := by decide +kernel
theorem dL_act_16 : decode cL_act 16 = .ok (.arraylength, 1) := by decide +kernel
theorem dL_act_17 : decode cL_act 17 = .ok (.istore 5, 2) := by decide +kernel
theorem dL_act_19 : decode cL_act 19 = .ok (.iload_n 2, 1) := by decide +kernel
theorem dL_act_20 : decode cL_act 20 = .ok (.bipush 9, 2) := by decide +kernel
theorem dL_act_22 : decode cL_act 22 = .ok (.ishr, 1) := by decide +kernel
theorem dL_act_23 : decode cL_act 23 = .ok (.bipush 16, 2) := by decide +kernel
theorem dL_act_25 : decode cL_act 25 = .ok (.invokestatic 22, 3) := by decide +kernel
theorem dL_act_28 : decode cL_act 28 = .ok (.istore 6, 2) := by decide +kernel
theorem dL_act_30 : decode cL_act 30 = .ok (.iload_n 3, 1) := by decide +kernel
theorem dL_act_31 : decode cL_act 31 = .ok (.iconst 2, 1) := by decide +kernel
theorem dL_act_32 : decode cL_act 32 = .ok (.if_icmp .lt 8, 3) := by decide +kernel
theorem dL_act_35 : decode cL_act 35 = .ok (.iload 6, 2) := by decide +kernel
theorem dL_act_37 : decode cL_act 37 = .ok (.ifCond .ne 35, 3) := by decide +kernel
theorem dL_act_40 : decode cL_act 40 = .ok (.iload_n 3, 1) := by decide +kernel
theorem dL_act_41 : decode cL_act 41 = .ok (.bipush 10, 2) := by decide +kernel
theorem dL_act_43 : decode cL_act 43 = .ok (.if_icmp .ne 5, 3) := by decide +kernel
theorem dL_act_46 : decode cL_act 46 = .ok (.iconst 1, 1) := by decide +kernel
theorem dL_act_47 : decode cL_act 47 = .ok (.ireturn, 1) := by decide +kernel
theorem dL_act_48 : decode cL_act 48 = .ok (.aload_n 1, 1) := by decide +kernel
theorem dL_act_49 : decode cL_act 49 = .ok (.dup, 1) := by decide +kernel
theorem dL_act_50 : decode cL_act 50 = .ok (.getfield 9, 3) := by decide +kernel
theorem dL_act_53 : decode cL_act 53 = .ok (.iconst 1, 1) := by decide +kernel
theorem dL_act_54 : decode cL_act 54 = .ok (.iadd, 1) := by decide +kernel
theorem dL_act_55 : decode cL_act 55 = .ok (.putfield 9, 3) := by decide +kernel
theorem dL_act_58 : decode cL_act 58 = .ok (.aload_n 0, 1) := by decide +kernel
theorem dL_act_59 : decode cL_act 59 = .ok (.invokevirtual 28, 3) := by decide +kernel
theorem dL_act_62 : decode cL_act 62 = .ok (.iload_n 3, 1) := by decide +kernel
theorem dL_act_63 : decode cL_act 63 = .ok (.if_icmp .ne 7, 3) := by decide +kernel
theorem dL_act_66 : decode cL_act 66 = .ok (.iconst 1, 1) := by decide +kernel
theorem dL_act_67 : decode cL_act 67 = .ok (.goto 4, 3) := by decide +kernel
theorem dL_act_70 : decode cL_act 70 = .ok (.iconst 0, 1) := by decide +kernel
theorem dL_act_71 : decode cL_act 71 = .ok (.ireturn, 1) := by decide +kernel
theorem dL_act_72 : decode cL_act 72 = .ok (.iload_n 2, 1) := by decide +kernel
theorem dL_act_73 : decode cL_act 73 = .ok (.iconst 1, 1) := by decide +kernel
theorem dL_act_74 : decode cL_act 74 = .ok (.ishr, 1) := by decide +kernel
theorem dL_act_75 : decode cL_act 75 = .ok (.iload_n 3, 1) := by decide +kernel
theorem dL_act_76 : decode cL_act 76 = .ok (.invokestatic 22, 3) := by decide +kernel
theorem dL_act_79 : decode cL_act 79 = .ok (.istore 7, 2) := by decide +kernel
theorem dL_act_81 : decode cL_act 81 = .ok (.iload 7, 2) := by decide +kernel
theorem dL_act_83 : decode cL_act 83 = .ok (.iconst 1, 1) := by decide +kernel
theorem dL_act_84 : decode cL_act 84 = .ok (.iadd, 1) := by decide +kernel
theorem dL_act_85 : decode cL_act 85 = .ok (.iload_n 2, 1) := by decide +kernel
theorem dL_act_86 : decode cL_act 86 = .ok (.iconst 3, 1) := by decide +kernel
theorem dL_act_87 : decode cL_act 87 = .ok (.ishr, 1) := by decide +kernel
theorem dL_act_88 : decode cL_act 88 = .ok (.iload_n 3, 1) := by decide +kernel
theorem dL_act_89 : decode cL_act 89 = .ok (.iconst 1, 1) := by decide +kernel
theorem dL_act_90 : decode cL_act 90 = .ok (.isub, 1) := by decide +kernel
theorem dL_act_91 : decode cL_act 91 = .ok (.invokestatic 22, 3) := by decide +kernel
theorem dL_act_94 : decode cL_act 94 = .ok (.iadd, 1) := by decide +kernel
theorem dL_act_95 : decode cL_act 95 = .ok (.iload_n 3, 1) := by decide +kernel
theorem dL_act_96 : decode cL_act 96 = .ok (.irem, 1) := by decide +kernel
theorem dL_act_97 : decode cL_act 97 = .ok (.istore 8, 2) := by decide +kernel
theorem dL_act_99 : decode cL_act 99 = .ok (.iload 4, 2) := by decide +kernel
theorem dL_act_101 : decode cL_act 101 = .ok (.ifCond .eq 9, 3) := by decide +kernel
theorem dL_act_104 : decode cL_act 104 = .ok (.iload 6, 2) := by decide +kernel
theorem dL_act_106 : decode cL_act 106 = .ok (.iconst 5, 1) := by decide +kernel
theorem dL_act_107 : decode cL_act 107 = .ok (.if_icmp .ge 105, 3) := by decide +kernel
theorem dL_act_110 : decode cL_act 110 = .ok (.iload 4, 2) := by decide +kernel
theorem dL_act_112 : decode cL_act 112 = .ok (.bipush 20, 2) := by decide +kernel
theorem dL_act_114 : decode cL_act 114 = .ok (.if_icmp .ne 5, 3) := by decide +kernel
theorem dL_act_117 : decode cL_act 117 = .ok (.iconst 1, 1) := by decide +kernel
theorem dL_act_118 : decode cL_act 118 = .ok (.ireturn, 1) := by decide +kernel
theorem dL_act_119 : decode cL_act 119 = .ok (.bipush 7, 2) := by decide +kernel
theorem dL_act_121 : decode cL_act 121 = .ok (.newarray .int, 2) := by decide +kernel
theorem dL_act_123 : decode cL_act 123 = .ok (.dup, 1) := by decide +kernel
theorem dL_act_124 : decode cL_act 124 = .ok (.iconst 0, 1) := by decide +kernel
theorem dL_act_125 : decode cL_act 125 = .ok (.iload 7, 2) := by decide +kernel
theorem dL_act_127 : decode cL_act 127 = .ok (.iastore, 1) := by decide +kernel
theorem dL_act_128 : decode cL_act 128 = .ok (.dup, 1) := by decide +kernel
theorem dL_act_129 : decode cL_act 129 = .ok (.iconst 1, 1) := by decide +kernel
theorem dL_act_130 : decode cL_act 130 = .ok (.iload 8, 2) := by decide +kernel
theorem dL_act_132 : decode cL_act 132 = .ok (.iastore, 1) := by decide +kernel
theorem dL_act_133 : decode cL_act 133 = .ok (.dup, 1) := by decide +kernel
theorem dL_act_134 : decode cL_act 134 = .ok (.iconst 2, 1) := by decide +kernel
theorem dL_act_135 : decode cL_act 135 = .ok (.iconst 1, 1) := by decide +kernel
theorem dL_act_136 : decode cL_act 136 = .ok (.iload_n 2, 1) := by decide +kernel
theorem dL_act_137 : decode cL_act 137 = .ok (.iconst 5, 1) := by decide +kernel
theorem dL_act_138 : decode cL_act 138 = .ok (.ishr, 1) := by decide +kernel
theorem dL_act_139 : decode cL_act 139 = .ok (.bipush 9, 2) := by decide +kernel
theorem dL_act_141 : decode cL_act 141 = .ok (.invokestatic 22, 3) := by decide +kernel
theorem dL_act_144 : decode cL_act 144 = .ok (.iadd, 1) := by decide +kernel
theorem dL_act_145 : decode cL_act 145 = .ok (.iastore, 1) := by decide +kernel
theorem dL_act_146 : decode cL_act 146 = .ok (.dup, 1) := by decide +kernel
theorem dL_act_147 : decode cL_act 147 = .ok (.iconst 3, 1) := by decide +kernel
theorem dL_act_148 : decode cL_act 148 = .ok (.iload_n 2, 1) := by decide +kernel
theorem dL_act_149 : decode cL_act 149 = .ok (.bipush 7, 2) := by decide +kernel
theorem dL_act_151 : decode cL_act 151 = .ok (.ishr, 1) := by decide +kernel
theorem dL_act_152 : decode cL_act 152 = .ok (.iconst 4, 1) := by decide +kernel
theorem dL_act_153 : decode cL_act 153 = .ok (.invokestatic 22, 3) := by decide +kernel
theorem dL_act_156 : decode cL_act 156 = .ok (.iastore, 1) := by decide +kernel
theorem dL_act_157 : decode cL_act 157 = .ok (.dup, 1) := by decide +kernel
theorem dL_act_158 : decode cL_act 158 = .ok (.iconst 4, 1) := by decide +kernel
theorem dL_act_159 : decode cL_act 159 = .ok (.iconst 0, 1) := by decide +kernel
theorem dL_act_160 : decode cL_act 160 = .ok (.iastore, 1) := by decide +kernel
theorem dL_act_161 : decode cL_act 161 = .ok (.dup, 1) := by decide +kernel
theorem dL_act_162 : decode cL_act 162 = .ok (.iconst 5, 1) := by decide +kernel
theorem dL_act_163 : decode cL_act 163 = .ok (.iconst 0, 1) := by decide +kernel
theorem dL_act_164 : decode cL_act 164 = .ok (.iastore, 1) := by decide +kernel
theorem dL_act_165 : decode cL_act 165 = .ok (.dup, 1) := by decide +kernel
theorem dL_act_166 : decode cL_act 166 = .ok (.bipush 6, 2) := by decide +kernel
theorem dL_act_168 : decode cL_act 168 = .ok (.iconst 0, 1) := by decide +kernel
theorem dL_act_169 : decode cL_act 169 = .ok (.iastore, 1) := by decide +kernel
theorem dL_act_170 : decode cL_act 170 = .ok (.astore 9, 2) := by decide +kernel
theorem dL_act_172 : decode cL_act 172 = .ok (.aload_n 1, 1) := by decide +kernel
theorem dL_act_173 : decode cL_act 173 = .ok (.aload_n 1, 1) := by decide +kernel
theorem dL_act_174 : decode cL_act 174 = .ok (.getfield 15, 3) := by decide +kernel
theorem dL_act_177 : decode cL_act 177 = .ok (.aload 9, 2) := by decide +kernel
theorem dL_act_179 : decode cL_act 179 = .ok (.invokestatic 34, 3) := by decide +kernel
theorem dL_act_182 : decode cL_act 182 = .ok (.putfield 15, 3) := by decide +kernel
theorem dL_act_185 : decode cL_act 185 = .ok (.aload_n 0, 1) := by decide +kernel
theorem dL_act_186 : decode cL_act 186 = .ok (.iload 7, 2) := by decide +kernel
theorem dL_act_188 : decode cL_act 188 = .ok (.iload 8, 2) := by decide +kernel
theorem dL_act_190 : decode cL_act 190 = .ok (.aload 9, 2) := by decide +kernel
theorem dL_act_192 : decode cL_act 192 = .ok (.iconst 2, 1) := by decide +kernel
theorem dL_act_193 : decode cL_act 193 = .ok (.iaload, 1) := by decide +kernel
theorem dL_act_194 : decode cL_act 194 = .ok (.aload 9, 2) := by decide +kernel
theorem dL_act_196 : decode cL_act 196 = .ok (.iconst 3, 1) := by decide +kernel
theorem dL_act_197 : decode cL_act 197 = .ok (.iaload, 1) := by decide +kernel
theorem dL_act_198 : decode cL_act 198 = .ok (.invokevirtual 38, 3) := by decide +kernel
theorem dL_act_201 : decode cL_act 201 = .ok (.iload 4, 2) := by decide +kernel
theorem dL_act_203 : decode cL_act 203 = .ok (.if_icmp .ne 7, 3) := by decide +kernel
theorem dL_act_206 : decode cL_act 206 = .ok (.iconst 1, 1) := by decide +kernel
theorem dL_act_207 : decode cL_act 207 = .ok (.goto 4, 3) := by decide +kernel
theorem dL_act_210 : decode cL_act 210 = .ok (.iconst 0, 1) := by decide +kernel
theorem dL_act_211 : decode cL_act 211 = .ok (.ireturn, 1) := by decide +kernel
theorem dL_act_212 : decode cL_act 212 = .ok (.iload_n 2, 1) := by decide +kernel
theorem dL_act_213 : decode cL_act 213 = .ok (.iconst 2, 1) := by decide +kernel
theorem dL_act_214 : decode cL_act 214 = .ok (.ishr, 1) := by decide +kernel
theorem dL_act_215 : decode cL_act 215 = .ok (.iload 4, 2) := by decide +kernel
theorem dL_act_217 : decode cL_act 217 = .ok (.invokestatic 22, 3) := by decide +kernel
theorem dL_act_220 : decode cL_act 220 = .ok (.istore 9, 2) := by decide +kernel
theorem dL_act_222 : decode cL_act 222 = .ok (.aload_n 1, 1) := by decide +kernel
theorem dL_act_223 : decode cL_act 223 = .ok (.getfield 15, 3) := by decide +kernel
theorem dL_act_226 : decode cL_act 226 = .ok (.iload 9, 2) := by decide +kernel
theorem dL_act_228 : decode cL_act 228 = .ok (.aaload, 1) := by decide +kernel
theorem dL_act_229 : decode cL_act 229 = .ok (.astore 10, 2) := by decide +kernel
theorem dL_act_231 : decode cL_act 231 = .ok (.iload 6, 2) := by decide +kernel
theorem dL_act_233 : decode cL_act 233 = .ok (.tableswitch 191 5 9 #[35, 35, 35, 97, 143], 35) := by decide +kernel
theorem dL_act_268 : decode cL_act 268 = .ok (.aload_n 1, 1) := by decide +kernel
theorem dL_act_269 : decode cL_act 269 = .ok (.iload 7, 2) := by decide +kernel
theorem dL_act_271 : decode cL_act 271 = .ok (.iload 8, 2) := by decide +kernel
theorem dL_act_273 : decode cL_act 273 = .ok (.invokevirtual 42, 3) := by decide +kernel
theorem dL_act_276 : decode cL_act 276 = .ok (.astore 11, 2) := by decide +kernel
theorem dL_act_278 : decode cL_act 278 = .ok (.iload 5, 2) := by decide +kernel
theorem dL_act_280 : decode cL_act 280 = .ok (.bipush 12, 2) := by decide +kernel
theorem dL_act_282 : decode cL_act 282 = .ok (.if_icmp .eq 14, 3) := by decide +kernel
theorem dL_act_285 : decode cL_act 285 = .ok (.aload 11, 2) := by decide +kernel
theorem dL_act_287 : decode cL_act 287 = .ok (.bipush 6, 2) := by decide +kernel
theorem dL_act_289 : decode cL_act 289 = .ok (.iaload, 1) := by decide +kernel
theorem dL_act_290 : decode cL_act 290 = .ok (.sipush 999, 3) := by decide +kernel
theorem dL_act_293 : decode cL_act 293 = .ok (.if_icmp .ne 5, 3) := by decide +kernel
theorem dL_act_296 : decode cL_act 296 = .ok (.iconst 1, 1) := by decide +kernel
theorem dL_act_297 : decode cL_act 297 = .ok (.ireturn, 1) := by decide +kernel
theorem dL_act_298 : decode cL_act 298 = .ok (.aload_n 1, 1) := by decide +kernel
theorem dL_act_299 : decode cL_act 299 = .ok (.aload_n 1, 1) := by decide +kernel
theorem dL_act_300 : decode cL_act 300 = .ok (.getfield 19, 3) := by decide +kernel
theorem dL_act_303 : decode cL_act 303 = .ok (.aload 11, 2) := by decide +kernel
theorem dL_act_305 : decode cL_act 305 = .ok (.invokestatic 34, 3) := by decide +kernel
