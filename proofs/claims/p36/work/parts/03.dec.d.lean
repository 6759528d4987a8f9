theorem dX5_distances_37 : decode cX5_distances 37 = .ok (.goto 6, 3) := by decide +kernel
theorem dX5_distances_40 : decode cX5_distances 40 = .ok (.sipush 999, 3) := by decide +kernel
theorem dX5_distances_43 : decode cX5_distances 43 = .ok (.iastore, 1) := by decide +kernel
theorem dX5_distances_44 : decode cX5_distances 44 = .ok (.iinc 5 1, 3) := by decide +kernel
theorem dX5_distances_47 : decode cX5_distances 47 = .ok (.goto (-29), 3) := by decide +kernel
theorem dX5_distances_50 : decode cX5_distances 50 = .ok (.iconst 0, 1) := by decide +kernel
theorem dX5_distances_51 : decode cX5_distances 51 = .ok (.istore 5, 2) := by decide +kernel
theorem dX5_distances_53 : decode cX5_distances 53 = .ok (.iload 5, 2) := by decide +kernel
theorem dX5_distances_55 : decode cX5_distances 55 = .ok (.aload_n 0, 1) := by decide +kernel
theorem dX5_distances_56 : decode cX5_distances 56 = .ok (.getfield 18, 3) := by decide +kernel
theorem dX5_distances_59 : decode cX5_distances 59 = .ok (.if_icmp .ge 186, 3) := by decide +kernel
theorem dX5_distances_62 : decode cX5_distances 62 = .ok (.iconst (-1), 1) := by decide +kernel
theorem dX5_distances_63 : decode cX5_distances 63 = .ok (.istore 6, 2) := by decide +kernel
theorem dX5_distances_65 : decode cX5_distances 65 = .ok (.iconst 0, 1) := by decide +kernel
theorem dX5_distances_66 : decode cX5_distances 66 = .ok (.istore 7, 2) := by decide +kernel
theorem dX5_distances_68 : decode cX5_distances 68 = .ok (.iload 7, 2) := by decide +kernel
theorem dX5_distances_70 : decode cX5_distances 70 = .ok (.aload_n 0, 1) := by decide +kernel
theorem dX5_distances_71 : decode cX5_distances 71 = .ok (.getfield 18, 3) := by decide +kernel
theorem dX5_distances_74 : decode cX5_distances 74 = .ok (.if_icmp .ge 37, 3) := by decide +kernel
theorem dX5_distances_77 : decode cX5_distances 77 = .ok (.aload 4, 2) := by decide +kernel
theorem dX5_distances_79 : decode cX5_distances 79 = .ok (.iload 7, 2) := by decide +kernel
theorem dX5_distances_81 : decode cX5_distances 81 = .ok (.baload, 1) := by decide +kernel
theorem dX5_distances_82 : decode cX5_distances 82 = .ok (.ifCond .ne 23, 3) := by decide +kernel
theorem dX5_distances_85 : decode cX5_distances 85 = .ok (.iload 6, 2) := by decide +kernel
theorem dX5_distances_87 : decode cX5_distances 87 = .ok (.ifCond .lt 14, 3) := by decide +kernel
theorem dX5_distances_90 : decode cX5_distances 90 = .ok (.aload_n 3, 1) := by decide +kernel
theorem dX5_distances_91 : decode cX5_distances 91 = .ok (.iload 7, 2) := by decide +kernel
theorem dX5_distances_93 : decode cX5_distances 93 = .ok (.iaload, 1) := by decide +kernel
theorem dX5_distances_94 : decode cX5_distances 94 = .ok (.aload_n 3, 1) := by decide +kernel
theorem dX5_distances_95 : decode cX5_distances 95 = .ok (.iload 6, 2) := by decide +kernel
theorem dX5_distances_97 : decode cX5_distances 97 = .ok (.iaload, 1) := by decide +kernel
theorem dX5_distances_98 : decode cX5_distances 98 = .ok (.if_icmp .ge 7, 3) := by decide +kernel
theorem dX5_distances_101 : decode cX5_distances 101 = .ok (.iload 7, 2) := by decide +kernel
theorem dX5_distances_103 : decode cX5_distances 103 = .ok (.istore 6, 2) := by decide +kernel
theorem dX5_distances_105 : decode cX5_distances 105 = .ok (.iinc 7 1, 3) := by decide +kernel
theorem dX5_distances_108 : decode cX5_distances 108 = .ok (.goto (-40), 3) := by decide +kernel
theorem dX5_distances_111 : decode cX5_distances 111 = .ok (.aload 4, 2) := by decide +kernel
theorem dX5_distances_113 : decode cX5_distances 113 = .ok (.iload 6, 2) := by decide +kernel
theorem dX5_distances_115 : decode cX5_distances 115 = .ok (.iconst 1, 1) := by decide +kernel
theorem dX5_distances_116 : decode cX5_distances 116 = .ok (.bastore, 1) := by decide +kernel
theorem dX5_distances_117 : decode cX5_distances 117 = .ok (.aload_n 3, 1) := by decide +kernel
theorem dX5_distances_118 : decode cX5_distances 118 = .ok (.iload 6, 2) := by decide +kernel
theorem dX5_distances_120 : decode cX5_distances 120 = .ok (.iaload, 1) := by decide +kernel
theorem dX5_distances_121 : decode cX5_distances 121 = .ok (.sipush 999, 3) := by decide +kernel
theorem dX5_distances_124 : decode cX5_distances 124 = .ok (.if_icmp .ne 6, 3) := by decide +kernel
theorem dX5_distances_127 : decode cX5_distances 127 = .ok (.goto 112, 3) := by decide +kernel
theorem dX5_distances_130 : decode cX5_distances 130 = .ok (.aload_n 0, 1) := by decide +kernel
theorem dX5_distances_131 : decode cX5_distances 131 = .ok (.getfield 9, 3) := by decide +kernel
theorem dX5_distances_134 : decode cX5_distances 134 = .ok (.astore 7, 2) := by decide +kernel
theorem dX5_distances_136 : decode cX5_distances 136 = .ok (.aload 7, 2) := by decide +kernel
theorem dX5_distances_138 : decode cX5_distances 138 = .ok (.arraylength, 1) := by decide +kernel
theorem dX5_distances_139 : decode cX5_distances 139 = .ok (.istore 8, 2) := by decide +kernel
theorem dX5_distances_141 : decode cX5_distances 141 = .ok (.iconst 0, 1) := by decide +kernel
theorem dX5_distances_142 : decode cX5_distances 142 = .ok (.istore 9, 2) := by decide +kernel
theorem dX5_distances_144 : decode cX5_distances 144 = .ok (.iload 9, 2) := by decide +kernel
theorem dX5_distances_146 : decode cX5_distances 146 = .ok (.iload 8, 2) := by decide +kernel
theorem dX5_distances_148 : decode cX5_distances 148 = .ok (.if_icmp .ge 91, 3) := by decide +kernel
theorem dX5_distances_151 : decode cX5_distances 151 = .ok (.aload 7, 2) := by decide +kernel
theorem dX5_distances_153 : decode cX5_distances 153 = .ok (.iload 9, 2) := by decide +kernel
theorem dX5_distances_155 : decode cX5_distances 155 = .ok (.aaload, 1) := by decide +kernel
theorem dX5_distances_156 : decode cX5_distances 156 = .ok (.astore 10, 2) := by decide +kernel
theorem dX5_distances_158 : decode cX5_distances 158 = .ok (.iload_n 2, 1) := by decide +kernel
theorem dX5_distances_159 : decode cX5_distances 159 = .ok (.ifCond .ne 13, 3) := by decide +kernel
theorem dX5_distances_162 : decode cX5_distances 162 = .ok (.aload 10, 2) := by decide +kernel
theorem dX5_distances_164 : decode cX5_distances 164 = .ok (.iconst 4, 1) := by decide +kernel
theorem dX5_distances_165 : decode cX5_distances 165 = .ok (.iaload, 1) := by decide +kernel
theorem dX5_distances_166 : decode cX5_distances 166 = .ok (.ifCond .le 6, 3) := by decide +kernel
theorem dX5_distances_169 : decode cX5_distances 169 = .ok (.goto 64, 3) := by decide +kernel
theorem dX5_distances_172 : decode cX5_distances 172 = .ok (.aload 10, 2) := by decide +kernel
theorem dX5_distances_174 : decode cX5_distances 174 = .ok (.iconst 0, 1) := by decide +kernel
theorem dX5_distances_175 : decode cX5_distances 175 = .ok (.iaload, 1) := by decide +kernel
theorem dX5_distances_176 : decode cX5_distances 176 = .ok (.iload 6, 2) := by decide +kernel
theorem dX5_distances_178 : decode cX5_distances 178 = .ok (.if_icmp .ne 10, 3) := by decide +kernel
theorem dX5_distances_181 : decode cX5_distances 181 = .ok (.aload 10, 2) := by decide +kernel
theorem dX5_distances_183 : decode cX5_distances 183 = .ok (.iconst 1, 1) := by decide +kernel
theorem dX5_distances_184 : decode cX5_distances 184 = .ok (.iaload, 1) := by decide +kernel
theorem dX5_distances_185 : decode cX5_distances 185 = .ok (.goto 20, 3) := by decide +kernel
theorem dX5_distances_188 : decode cX5_distances 188 = .ok (.aload 10, 2) := by decide +kernel
theorem dX5_distances_190 : decode cX5_distances 190 = .ok (.iconst 1, 1) := by decide +kernel
theorem dX5_distances_191 : decode cX5_distances 191 = .ok (.iaload, 1) := by decide +kernel
theorem dX5_distances_192 : decode cX5_distances 192 = .ok (.iload 6, 2) := by decide +kernel
theorem dX5_distances_194 : decode cX5_distances 194 = .ok (.if_icmp .ne 10, 3) := by decide +kernel
theorem dX5_distances_197 : decode cX5_distances 197 = .ok (.aload 10, 2) := by decide +kernel
theorem dX5_distances_199 : decode cX5_distances 199 = .ok (.iconst 0, 1) := by decide +kernel
theorem dX5_distances_200 : decode cX5_distances 200 = .ok (.iaload, 1) := by decide +kernel
theorem dX5_distances_201 : decode cX5_distances 201 = .ok (.goto 4, 3) := by decide +kernel
theorem dX5_distances_204 : decode cX5_distances 204 = .ok (.iconst (-1), 1) := by decide +kernel
theorem dX5_distances_205 : decode cX5_distances 205 = .ok (.istore 11, 2) := by decide +kernel
theorem dX5_distances_207 : decode cX5_distances 207 = .ok (.iload 11, 2) := by decide +kernel
theorem dX5_distances_209 : decode cX5_distances 209 = .ok (.ifCond .lt 24, 3) := by decide +kernel
theorem dX5_distances_212 : decode cX5_distances 212 = .ok (.aload_n 3, 1) := by decide +kernel
theorem dX5_distances_213 : decode cX5_distances 213 = .ok (.iload 11, 2) := by decide +kernel
theorem dX5_distances_215 : decode cX5_distances 215 = .ok (.aload_n 3, 1) := by decide +kernel
theorem dX5_distances_216 : decode cX5_distances 216 = .ok (.iload 11, 2) := by decide +kernel
theorem dX5_distances_218 : decode cX5_distances 218 = .ok (.iaload, 1) := by decide +kernel
theorem dX5_distances_219 : decode cX5_distances 219 = .ok (.aload_n 3, 1) := by decide +kernel
theorem dX5_distances_220 : decode cX5_distances 220 = .ok (.iload 6, 2) := by decide +kernel
theorem dX5_distances_222 : decode cX5_distances 222 = .ok (.iaload, 1) := by decide +kernel
theorem dX5_distances_223 : decode cX5_distances 223 = .ok (.aload 10, 2) := by decide +kernel
theorem dX5_distances_225 : decode cX5_distances 225 = .ok (.invokestatic 22, 3) := by decide +kernel
theorem dX5_distances_228 : decode cX5_distances 228 = .ok (.iadd, 1) := by decide +kernel
theorem dX5_distances_229 : decode cX5_distances 229 = .ok (.invokestatic 26, 3) := by decide +kernel
theorem dX5_distances_232 : decode cX5_distances 232 = .ok (.iastore, 1) := by decide +kernel
theorem dX5_distances_233 : decode cX5_distances 233 = .ok (.iinc 9 1, 3) := by decide +kernel
theorem dX5_distances_236 : decode cX5_distances 236 = .ok (.goto (-92), 3) := by decide +kernel
theorem dX5_distances_239 : decode cX5_distances 239 = .ok (.iinc 5 1, 3) := by decide +kernel
theorem dX5_distances_242 : decode cX5_distances 242 = .ok (.goto (-189), 3) := by decide +kernel
theorem dX5_distances_245 : decode cX5_distances 245 = .ok (.aload_n 3, 1) := by decide +kernel
theorem dX5_distances_246 : decode cX5_distances 246 = .ok (.areturn, 1) := by decide +kernel
theorem dX5_next_0 : decode cX5_next 0 = .ok (.aload_n 0, 1) := by decide +kernel
theorem dX5_next_1 : decode cX5_next 1 = .ok (.iload_n 2, 1) := by decide +kernel
theorem dX5_next_2 : decode cX5_next 2 = .ok (.iconst 0, 1) := by decide +kernel
theorem dX5_next_3 : decode cX5_next 3 = .ok (.invokevirtual 32, 3) := by decide +kernel
theorem dX5_next_6 : decode cX5_next 6 = .ok (.astore_n 3, 1) := by decide +kernel
theorem dX5_next_7 : decode cX5_next 7 = .ok (.iload_n 1, 1) := by decide +kernel
theorem dX5_next_8 : decode cX5_next 8 = .ok (.iload_n 2, 1) := by decide +kernel
theorem dX5_next_9 : decode cX5_next 9 = .ok (.if_icmp .eq 12, 3) := by decide +kernel
theorem dX5_next_12 : decode cX5_next 12 = .ok (.aload_n 3, 1) := by decide +kernel
theorem dX5_next_13 : decode cX5_next 13 = .ok (.iload_n 1, 1) := by decide +kernel
theorem dX5_next_14 : decode cX5_next 14 = .ok (.iaload, 1) := by decide +kernel
theorem dX5_next_15 : decode cX5_next 15 = .ok (.sipush 999, 3) := by decide +kernel
theorem dX5_next_18 : decode cX5_next 18 = .ok (.if_icmp .ne 5, 3) := by decide +kernel
theorem dX5_next_21 : decode cX5_next 21 = .ok (.iconst (-1), 1) := by decide +kernel
theorem dX5_next_22 : decode cX5_next 22 = .ok (.ireturn, 1) := by decide +kernel
theorem dX5_next_23 : decode cX5_next 23 = .ok (.iconst 0, 1) := by decide +kernel
theorem dX5_next_24 : decode cX5_next 24 = .ok (.istore 4, 2) := by decide +kernel
theorem dX5_next_26 : decode cX5_next 26 = .ok (.iload 4, 2) := by decide +kernel
theorem dX5_next_28 : decode cX5_next 28 = .ok (.aload_n 0, 1) := by decide +kernel
theorem dX5_next_29 : decode cX5_next 29 = .ok (.getfield 9, 3) := by decide +kernel
theorem dX5_next_32 : decode cX5_next 32 = .ok (.arraylength, 1) := by decide +kernel
theorem dX5_next_33 : decode cX5_next 33 = .ok (.if_icmp .ge 84, 3) := by decide +kernel
theorem dX5_next_36 : decode cX5_next 36 = .ok (.aload_n 0, 1) := by decide +kernel
theorem dX5_next_37 : decode cX5_next 37 = .ok (.getfield 9, 3) := by decide +kernel
theorem dX5_next_40 : decode cX5_next 40 = .ok (.iload 4, 2) := by decide +kernel
theorem dX5_next_42 : decode cX5_next 42 = .ok (.aaload, 1) := by decide +kernel
theorem dX5_next_43 : decode cX5_next 43 = .ok (.astore 5, 2) := by decide +kernel
theorem dX5_next_45 : decode cX5_next 45 = .ok (.aload 5, 2) := by decide +kernel
theorem dX5_next_47 : decode cX5_next 47 = .ok (.iconst 4, 1) := by decide +kernel
theorem dX5_next_48 : decode cX5_next 48 = .ok (.iaload, 1) := by decide +kernel
theorem dX5_next_49 : decode cX5_next 49 = .ok (.ifCond .gt 62, 3) := by decide +kernel
theorem dX5_next_52 : decode cX5_next 52 = .ok (.aload 5, 2) := by decide +kernel
theorem dX5_next_54 : decode cX5_next 54 = .ok (.iconst 0, 1) := by decide +kernel
theorem dX5_next_55 : decode cX5_next 55 = .ok (.iaload, 1) := by decide +kernel
theorem dX5_next_56 : decode cX5_next 56 = .ok (.iload_n 1, 1) := by decide +kernel
theorem dX5_next_57 : decode cX5_next 57 = .ok (.if_icmp .eq 14, 3) := by decide +kernel
theorem dX5_next_60 : decode cX5_next 60 = .ok (.aload 5, 2) := by decide +kernel
theorem dX5_next_62 : decode cX5_next 62 = .ok (.iconst 1, 1) := by decide +kernel
theorem dX5_next_63 : decode cX5_next 63 = .ok (.iaload, 1) := by decide +kernel
theorem dX5_next_64 : decode cX5_next 64 = .ok (.iload_n 1, 1) := by decide +kernel
theorem dX5_next_65 : decode cX5_next 65 = .ok (.if_icmp .eq 6, 3) := by decide +kernel
theorem dX5_next_68 : decode cX5_next 68 = .ok (.goto 43, 3) := by decide +kernel
theorem dX5_next_71 : decode cX5_next 71 = .ok (.aload 5, 2) := by decide +kernel
theorem dX5_next_73 : decode cX5_next 73 = .ok (.iconst 0, 1) := by decide +kernel
theorem dX5_next_74 : decode cX5_next 74 = .ok (.iaload, 1) := by decide +kernel
theorem dX5_next_75 : decode cX5_next 75 = .ok (.iload_n 1, 1) := by decide +kernel
theorem dX5_next_76 : decode cX5_next 76 = .ok (.if_icmp .ne 10, 3) := by decide +kernel
theorem dX5_next_79 : decode cX5_next 79 = .ok (.aload 5, 2) := by decide +kernel
theorem dX5_next_81 : decode cX5_next 81 = .ok (.iconst 1, 1) := by decide +kernel
theorem dX5_next_82 : decode cX5_next 82 = .ok (.iaload, 1) := by decide +kernel
theorem dX5_next_83 : decode cX5_next 83 = .ok (.goto 7, 3) := by decide +kernel
theorem dX5_next_86 : decode cX5_next 86 = .ok (.aload 5, 2) := by decide +kernel
theorem dX5_next_88 : decode cX5_next 88 = .ok (.iconst 0, 1) := by decide +kernel
theorem dX5_next_89 : decode cX5_next 89 = .ok (.iaload, 1) := by decide +kernel
theorem dX5_next_90 : decode cX5_next 90 = .ok (.istore 6, 2) := by decide +kernel
theorem dX5_next_92 : decode cX5_next 92 = .ok (.aload_n 3, 1) := by decide +kernel
theorem dX5_next_93 : decode cX5_next 93 = .ok (.iload 6, 2) := by decide +kernel
theorem dX5_next_95 : decode cX5_next 95 = .ok (.iaload, 1) := by decide +kernel
theorem dX5_next_96 : decode cX5_next 96 = .ok (.aload 5, 2) := by decide +kernel
theorem dX5_next_98 : decode cX5_next 98 = .ok (.invokestatic 22, 3) := by decide +kernel
theorem dX5_next_101 : decode cX5_next 101 = .ok (.iadd, 1) := by decide +kernel
theorem dX5_next_102 : decode cX5_next 102 = .ok (.aload_n 3, 1) := by decide +kernel
theorem dX5_next_103 : decode cX5_next 103 = .ok (.iload_n 1, 1) := by decide +kernel
theorem dX5_next_104 : decode cX5_next 104 = .ok (.iaload, 1) := by decide +kernel
theorem dX5_next_105 : decode cX5_next 105 = .ok (.if_icmp .ne 6, 3) := by decide +kernel
theorem dX5_next_108 : decode cX5_next 108 = .ok (.iload 4, 2) := by decide +kernel
theorem dX5_next_110 : decode cX5_next 110 = .ok (.ireturn, 1) := by decide +kernel
theorem dX5_next_111 : decode cX5_next 111 = .ok (.iinc 4 1, 3) := by decide +kernel
theorem dX5_next_114 : decode cX5_next 114 = .ok (.goto (-88), 3) := by decide +kernel
theorem dX5_next_117 : decode cX5_next 117 = .ok (.bipush (-2), 2) := by decide +kernel
theorem dX5_next_119 : decode cX5_next 119 = .ok (.ireturn, 1) := by decide +kernel
theorem dX5_on_0 : decode cX5_on 0 = .ok (.iconst 0, 1) := by decide +kernel
theorem dX5_on_1 : decode cX5_on 1 = .ok (.istore_n 2, 1) := by decide +kernel
theorem dX5_on_2 : decode cX5_on 2 = .ok (.aload_n 0, 1) := by decide +kernel
theorem dX5_on_3 : decode cX5_on 3 = .ok (.getfield 15, 3) := by decide +kernel
theorem dX5_on_6 : decode cX5_on 6 = .ok (.astore_n 3, 1) := by decide +kernel
theorem dX5_on_7 : decode cX5_on 7 = .ok (.aload_n 3, 1) := by decide +kernel
theorem dX5_on_8 : decode cX5_on 8 = .ok (.arraylength, 1) := by decide +kernel
theorem dX5_on_9 : decode cX5_on 9 = .ok (.istore 4, 2) := by decide +kernel
theorem dX5_on_11 : decode cX5_on 11 = .ok (.iconst 0, 1) := by decide +kernel
theorem dX5_on_12 : decode cX5_on 12 = .ok (.istore 5, 2) := by decide +kernel
theorem dX5_on_14 : decode cX5_on 14 = .ok (.iload 5, 2) := by decide +kernel
theorem dX5_on_16 : decode cX5_on 16 = .ok (.iload 4, 2) := by decide +kernel
theorem dX5_on_18 : decode cX5_on 18 = .ok (.if_icmp .ge 26, 3) := by decide +kernel
theorem dX5_on_21 : decode cX5_on 21 = .ok (.aload_n 3, 1) := by decide +kernel
theorem dX5_on_22 : decode cX5_on 22 = .ok (.iload 5, 2) := by decide +kernel
theorem dX5_on_24 : decode cX5_on 24 = .ok (.aaload, 1) := by decide +kernel
theorem dX5_on_25 : decode cX5_on 25 = .ok (.astore 6, 2) := by decide +kernel
theorem dX5_on_27 : decode cX5_on 27 = .ok (.aload 6, 2) := by decide +kernel
theorem dX5_on_29 : decode cX5_on 29 = .ok (.iconst 1, 1) := by decide +kernel
theorem dX5_on_30 : decode cX5_on 30 = .ok (.iaload, 1) := by decide +kernel
theorem dX5_on_31 : decode cX5_on 31 = .ok (.iload_n 1, 1) := by decide +kernel
theorem dX5_on_32 : decode cX5_on 32 = .ok (.if_icmp .ne 6, 3) := by decide +kernel
theorem dX5_on_35 : decode cX5_on 35 = .ok (.iinc 2 1, 3) := by decide +kernel
theorem dX5_on_38 : decode cX5_on 38 = .ok (.iinc 5 1, 3) := by decide +kernel
theorem dX5_on_41 : decode cX5_on 41 = .ok (.goto (-27), 3) := by decide +kernel
theorem dX5_on_44 : decode cX5_on 44 = .ok (.iload_n 2, 1) := by decide +kernel
theorem dX5_on_45 : decode cX5_on 45 = .ok (.ireturn, 1) := by decide +kernel
theorem dX5_mixed_0 : decode cX5_mixed 0 = .ok (.iload_n 0, 1) := by decide +kernel
theorem dX5_mixed_1 : decode cX5_mixed 1 = .ok (.ifCond .ne 5, 3) := by decide +kernel
theorem dX5_mixed_4 : decode cX5_mixed 4 = .ok (.iload_n 1, 1) := by decide +kernel
theorem dX5_mixed_5 : decode cX5_mixed 5 = .ok (.ireturn, 1) := by decide +kernel
theorem dX5_mixed_6 : decode cX5_mixed 6 = .ok (.iload_n 1, 1) := by decide +kernel
theorem dX5_mixed_7 : decode cX5_mixed 7 = .ok (.ifCond .eq 8, 3) := by decide +kernel
theorem dX5_mixed_10 : decode cX5_mixed 10 = .ok (.iload_n 0, 1) := by decide +kernel
theorem dX5_mixed_11 : decode cX5_mixed 11 = .ok (.iload_n 1, 1) := by decide +kernel
theorem dX5_mixed_12 : decode cX5_mixed 12 = .ok (.if_icmp .ne 5, 3) := by decide +kernel
theorem dX5_mixed_15 : decode cX5_mixed 15 = .ok (.iload_n 0, 1) := by decide +kernel
theorem dX5_mixed_16 : decode cX5_mixed 16 = .ok (.ireturn, 1) := by decide +kernel
theorem dX5_mixed_17 : decode cX5_mixed 17 = .ok (.iconst 1, 1) := by decide +kernel
theorem dX5_mixed_18 : decode cX5_mixed 18 = .ok (.istore_n 2, 1) := by decide +kernel
theorem dX5_mixed_19 : decode cX5_mixed 19 = .ok (.iload_n 2, 1) := by decide +kernel
theorem dX5_mixed_20 : decode cX5_mixed 20 = .ok (.iconst 4, 1) := by decide +kernel
theorem dX5_mixed_21 : decode cX5_mixed 21 = .ok (.if_icmp .ge 21, 3) := by decide +kernel
theorem dX5_mixed_24 : decode cX5_mixed 24 = .ok (.iload_n 2, 1) := by decide +kernel
theorem dX5_mixed_25 : decode cX5_mixed 25 = .ok (.iload_n 0, 1) := by decide +kernel
theorem dX5_mixed_26 : decode cX5_mixed 26 = .ok (.if_icmp .eq 10, 3) := by decide +kernel
theorem dX5_mixed_29 : decode cX5_mixed 29 = .ok (.iload_n 2, 1) := by decide +kernel
theorem dX5_mixed_30 : decode cX5_mixed 30 = .ok (.iload_n 1, 1) := by decide +kernel
theorem dX5_mixed_31 : decode cX5_mixed 31 = .ok (.if_icmp .eq 5, 3) := by decide +kernel
theorem dX5_mixed_34 : decode cX5_mixed 34 = .ok (.iload_n 2, 1) := by decide +kernel
theorem dX5_mixed_35 : decode cX5_mixed 35 = .ok (.ireturn, 1) := by decide +kernel
theorem dX5_mixed_36 : decode cX5_mixed 36 = .ok (.iinc 2 1, 3) := by decide +kernel
theorem dX5_mixed_39 : decode cX5_mixed 39 = .ok (.goto (-20), 3) := by decide +kernel
theorem dX5_mixed_42 : decode cX5_mixed 42 = .ok (.iconst (-1), 1) := by decide +kernel
theorem dX5_mixed_43 : decode cX5_mixed 43 = .ok (.ireturn, 1) := by decide +kernel
theorem dX5_pass_0 : decode cX5_pass 0 = .ok (.aload_n 0, 1) := by decide +kernel
theorem dX5_pass_1 : decode cX5_pass 1 = .ok (.getfield 9, 3) := by decide +kernel
theorem dX5_pass_4 : decode cX5_pass 4 = .ok (.astore_n 1, 1) := by decide +kernel
theorem dX5_pass_5 : decode cX5_pass 5 = .ok (.aload_n 1, 1) := by decide +kernel
theorem dX5_pass_6 : decode cX5_pass 6 = .ok (.arraylength, 1) := by decide +kernel
theorem dX5_pass_7 : decode cX5_pass 7 = .ok (.istore_n 2, 1) := by decide +kernel
theorem dX5_pass_8 : decode cX5_pass 8 = .ok (.iconst 0, 1) := by decide +kernel
theorem dX5_pass_9 : decode cX5_pass 9 = .ok (.istore_n 3, 1) := by decide +kernel
theorem dX5_pass_10 : decode cX5_pass 10 = .ok (.iload_n 3, 1) := by decide +kernel
theorem dX5_pass_11 : decode cX5_pass 11 = .ok (.iload_n 2, 1) := by decide +kernel
theorem dX5_pass_12 : decode cX5_pass 12 = .ok (.if_icmp .ge 65, 3) := by decide +kernel
theorem dX5_pass_15 : decode cX5_pass 15 = .ok (.aload_n 1, 1) := by decide +kernel
theorem dX5_pass_16 : decode cX5_pass 16 = .ok (.iload_n 3, 1) := by decide +kernel
theorem dX5_pass_17 : decode cX5_pass 17 = .ok (.aaload, 1) := by decide +kernel
theorem dX5_pass_18 : decode cX5_pass 18 = .ok (.astore 4, 2) := by decide +kernel
theorem dX5_pass_20 : decode cX5_pass 20 = .ok (.aload 4, 2) := by decide +kernel
theorem dX5_pass_22 : decode cX5_pass 22 = .ok (.iconst 4, 1) := by decide +kernel
theorem dX5_pass_23 : decode cX5_pass 23 = .ok (.iaload, 1) := by decide +kernel
theorem dX5_pass_24 : decode cX5_pass 24 = .ok (.ifCond .ne 6, 3) := by decide +kernel
theorem dX5_pass_27 : decode cX5_pass 27 = .ok (.goto 44, 3) := by decide +kernel
theorem dX5_pass_30 : decode cX5_pass 30 = .ok (.aload 4, 2) := by decide +kernel
theorem dX5_pass_32 : decode cX5_pass 32 = .ok (.iconst 4, 1) := by decide +kernel
theorem dX5_pass_33 : decode cX5_pass 33 = .ok (.dup2, 1) := by decide +kernel
theorem dX5_pass_34 : decode cX5_pass 34 = .ok (.iaload, 1) := by decide +kernel
theorem dX5_pass_35 : decode cX5_pass 35 = .ok (.iconst 1, 1) := by decide +kernel
theorem dX5_pass_36 : decode cX5_pass 36 = .ok (.isub, 1) := by decide +kernel
theorem dX5_pass_37 : decode cX5_pass 37 = .ok (.iastore, 1) := by decide +kernel
theorem dX5_pass_38 : decode cX5_pass 38 = .ok (.aload 4, 2) := by decide +kernel
theorem dX5_pass_40 : decode cX5_pass 40 = .ok (.iconst 4, 1) := by decide +kernel
theorem dX5_pass_41 : decode cX5_pass 41 = .ok (.iaload, 1) := by decide +kernel
theorem dX5_pass_42 : decode cX5_pass 42 = .ok (.ifCond .le 6, 3) := by decide +kernel
theorem dX5_pass_45 : decode cX5_pass 45 = .ok (.goto 26, 3) := by decide +kernel
theorem dX5_pass_48 : decode cX5_pass 48 = .ok (.aload 4, 2) := by decide +kernel
theorem dX5_pass_50 : decode cX5_pass 50 = .ok (.iconst 5, 1) := by decide +kernel
theorem dX5_pass_51 : decode cX5_pass 51 = .ok (.iconst 0, 1) := by decide +kernel
theorem dX5_pass_52 : decode cX5_pass 52 = .ok (.iastore, 1) := by decide +kernel
theorem dX5_pass_53 : decode cX5_pass 53 = .ok (.aload 4, 2) := by decide +kernel
theorem dX5_pass_55 : decode cX5_pass 55 = .ok (.bipush 6, 2) := by decide +kernel
theorem dX5_pass_57 : decode cX5_pass 57 = .ok (.iaload, 1) := by decide +kernel
theorem dX5_pass_58 : decode cX5_pass 58 = .ok (.iconst 3, 1) := by decide +kernel
theorem dX5_pass_59 : decode cX5_pass 59 = .ok (.if_icmp .ge 12, 3) := by decide +kernel
theorem dX5_pass_62 : decode cX5_pass 62 = .ok (.aload 4, 2) := by decide +kernel
theorem dX5_pass_64 : decode cX5_pass 64 = .ok (.bipush 6, 2) := by decide +kernel
theorem dX5_pass_66 : decode cX5_pass 66 = .ok (.dup2, 1) := by decide +kernel
theorem dX5_pass_67 : decode cX5_pass 67 = .ok (.iaload, 1) := by decide +kernel
theorem dX5_pass_68 : decode cX5_pass 68 = .ok (.iconst 1, 1) := by decide +kernel
theorem dX5_pass_69 : decode cX5_pass 69 = .ok (.iadd, 1) := by decide +kernel
theorem dX5_pass_70 : decode cX5_pass 70 = .ok (.iastore, 1) := by decide +kernel
theorem dX5_pass_71 : decode cX5_pass 71 = .ok (.iinc 3 1, 3) := by decide +kernel
theorem dX5_pass_74 : decode cX5_pass 74 = .ok (.goto (-64), 3) := by decide +kernel
theorem dX5_pass_77 : decode cX5_pass 77 = .ok (.aload_n 0, 1) := by decide +kernel
theorem dX5_pass_78 : decode cX5_pass 78 = .ok (.getfield 15, 3) := by decide +kernel
theorem dX5_pass_81 : decode cX5_pass 81 = .ok (.astore_n 1, 1) := by decide +kernel
theorem dX5_pass_82 : decode cX5_pass 82 = .ok (.aload_n 1, 1) := by decide +kernel
theorem dX5_pass_83 : decode cX5_pass 83 = .ok (.arraylength, 1) := by decide +kernel
theorem dX5_pass_84 : decode cX5_pass 84 = .ok (.istore_n 2, 1) := by decide +kernel
theorem dX5_pass_85 : decode cX5_pass 85 = .ok (.iconst 0, 1) := by decide +kernel
theorem dX5_pass_86 : decode cX5_pass 86 = .ok (.istore_n 3, 1) := by decide +kernel
theorem dX5_pass_87 : decode cX5_pass 87 = .ok (.iload_n 3, 1) := by decide +kernel
theorem dX5_pass_88 : decode cX5_pass 88 = .ok (.iload_n 2, 1) := by decide +kernel
theorem dX5_pass_89 : decode cX5_pass 89 = .ok (.if_icmp .ge 187, 3) := by decide +kernel
theorem dX5_pass_92 : decode cX5_pass 92 = .ok (.aload_n 1, 1) := by decide +kernel
theorem dX5_pass_93 : decode cX5_pass 93 = .ok (.iload_n 3, 1) := by decide +kernel
theorem dX5_pass_94 : decode cX5_pass 94 = .ok (.aaload, 1) := by decide +kernel
theorem dX5_pass_95 : decode cX5_pass 95 = .ok (.astore 4, 2) := by decide +kernel
theorem dX5_pass_97 : decode cX5_pass 97 = .ok (.aload 4, 2) := by decide +kernel
theorem dX5_pass_99 : decode cX5_pass 99 = .ok (.bipush 7, 2) := by decide +kernel
theorem dX5_pass_101 : decode cX5_pass 101 = .ok (.iaload, 1) := by decide +kernel
theorem dX5_pass_102 : decode cX5_pass 102 = .ok (.ifCond .lt 6, 3) := by decide +kernel
theorem dX5_pass_105 : decode cX5_pass 105 = .ok (.goto 165, 3) := by decide +kernel
theorem dX5_pass_108 : decode cX5_pass 108 = .ok (.aload 4, 2) := by decide +kernel
theorem dX5_pass_110 : decode cX5_pass 110 = .ok (.iconst 1, 1) := by decide +kernel
theorem dX5_pass_111 : decode cX5_pass 111 = .ok (.iaload, 1) := by decide +kernel
theorem dX5_pass_112 : decode cX5_pass 112 = .ok (.ifCond .ge 104, 3) := by decide +kernel
theorem dX5_pass_115 : decode cX5_pass 115 = .ok (.aload_n 0, 1) := by decide +kernel
theorem dX5_pass_116 : decode cX5_pass 116 = .ok (.aload 4, 2) := by decide +kernel
theorem dX5_pass_118 : decode cX5_pass 118 = .ok (.iconst 0, 1) := by decide +kernel
theorem dX5_pass_119 : decode cX5_pass 119 = .ok (.iaload, 1) := by decide +kernel
theorem dX5_pass_120 : decode cX5_pass 120 = .ok (.aload 4, 2) := by decide +kernel
theorem dX5_pass_122 : decode cX5_pass 122 = .ok (.iconst 4, 1) := by decide +kernel
theorem dX5_pass_123 : decode cX5_pass 123 = .ok (.iaload, 1) := by decide +kernel
theorem dX5_pass_124 : decode cX5_pass 124 = .ok (.invokevirtual 36, 3) := by decide +kernel
theorem dX5_pass_127 : decode cX5_pass 127 = .ok (.istore 5, 2) := by decide +kernel
theorem dX5_pass_129 : decode cX5_pass 129 = .ok (.iload 5, 2) := by decide +kernel
theorem dX5_pass_131 : decode cX5_pass 131 = .ok (.ifCond .ge 6, 3) := by decide +kernel
theorem dX5_pass_134 : decode cX5_pass 134 = .ok (.goto 136, 3) := by decide +kernel
theorem dX5_pass_137 : decode cX5_pass 137 = .ok (.aload_n 0, 1) := by decide +kernel
theorem dX5_pass_138 : decode cX5_pass 138 = .ok (.getfield 9, 3) := by decide +kernel
theorem dX5_pass_141 : decode cX5_pass 141 = .ok (.iload 5, 2) := by decide +kernel
theorem dX5_pass_143 : decode cX5_pass 143 = .ok (.aaload, 1) := by decide +kernel
theorem dX5_pass_144 : decode cX5_pass 144 = .ok (.astore 6, 2) := by decide +kernel
theorem dX5_pass_146 : decode cX5_pass 146 = .ok (.aload 4, 2) := by decide +kernel
theorem dX5_pass_148 : decode cX5_pass 148 = .ok (.bipush 8, 2) := by decide +kernel
theorem dX5_pass_150 : decode cX5_pass 150 = .ok (.aload 6, 2) := by decide +kernel
theorem dX5_pass_152 : decode cX5_pass 152 = .ok (.iconst 0, 1) := by decide +kernel
theorem dX5_pass_153 : decode cX5_pass 153 = .ok (.iaload, 1) := by decide +kernel
theorem dX5_pass_154 : decode cX5_pass 154 = .ok (.aload 4, 2) := by decide +kernel
theorem dX5_pass_156 : decode cX5_pass 156 = .ok (.iconst 0, 1) := by decide +kernel
theorem dX5_pass_157 : decode cX5_pass 157 = .ok (.iaload, 1) := by decide +kernel
theorem dX5_pass_158 : decode cX5_pass 158 = .ok (.if_icmp .ne 10, 3) := by decide +kernel
theorem dX5_pass_161 : decode cX5_pass 161 = .ok (.aload 6, 2) := by decide +kernel
theorem dX5_pass_163 : decode cX5_pass 163 = .ok (.iconst 1, 1) := by decide +kernel
theorem dX5_pass_164 : decode cX5_pass 164 = .ok (.iaload, 1) := by decide +kernel
theorem dX5_pass_165 : decode cX5_pass 165 = .ok (.goto 7, 3) := by decide +kernel
theorem dX5_pass_168 : decode cX5_pass 168 = .ok (.aload 6, 2) := by decide +kernel
theorem dX5_pass_170 : decode cX5_pass 170 = .ok (.iconst 0, 1) := by decide +kernel
theorem dX5_pass_171 : decode cX5_pass 171 = .ok (.iaload, 1) := by decide +kernel
theorem dX5_pass_172 : decode cX5_pass 172 = .ok (.iastore, 1) := by decide +kernel
theorem dX5_pass_173 : decode cX5_pass 173 = .ok (.aload 4, 2) := by decide +kernel
theorem dX5_pass_175 : decode cX5_pass 175 = .ok (.iconst 0, 1) := by decide +kernel
theorem dX5_pass_176 : decode cX5_pass 176 = .ok (.iconst (-1), 1) := by decide +kernel
theorem dX5_pass_177 : decode cX5_pass 177 = .ok (.iastore, 1) := by decide +kernel
theorem dX5_pass_178 : decode cX5_pass 178 = .ok (.aload 4, 2) := by decide +kernel
theorem dX5_pass_180 : decode cX5_pass 180 = .ok (.iconst 1, 1) := by decide +kernel
theorem dX5_pass_181 : decode cX5_pass 181 = .ok (.iload 5, 2) := by decide +kernel
theorem dX5_pass_183 : decode cX5_pass 183 = .ok (.iastore, 1) := by decide +kernel
theorem dX5_pass_184 : decode cX5_pass 184 = .ok (.aload 4, 2) := by decide +kernel
theorem dX5_pass_186 : decode cX5_pass 186 = .ok (.iconst 2, 1) := by decide +kernel
theorem dX5_pass_187 : decode cX5_pass 187 = .ok (.aload 6, 2) := by decide +kernel
theorem dX5_pass_189 : decode cX5_pass 189 = .ok (.invokestatic 22, 3) := by decide +kernel
theorem dX5_pass_192 : decode cX5_pass 192 = .ok (.iastore, 1) := by decide +kernel
theorem dX5_pass_193 : decode cX5_pass 193 = .ok (.aload 4, 2) := by decide +kernel
theorem dX5_pass_195 : decode cX5_pass 195 = .ok (.iconst 3, 1) := by decide +kernel
theorem dX5_pass_196 : decode cX5_pass 196 = .ok (.aload 4, 2) := by decide +kernel
theorem dX5_pass_198 : decode cX5_pass 198 = .ok (.iconst 3, 1) := by decide +kernel
theorem dX5_pass_199 : decode cX5_pass 199 = .ok (.iaload, 1) := by decide +kernel
theorem dX5_pass_200 : decode cX5_pass 200 = .ok (.aload 6, 2) := by decide +kernel
theorem dX5_pass_202 : decode cX5_pass 202 = .ok (.iconst 3, 1) := by decide +kernel
theorem dX5_pass_203 : decode cX5_pass 203 = .ok (.iaload, 1) := by decide +kernel
theorem dX5_pass_204 : decode cX5_pass 204 = .ok (.invokestatic 39, 3) := by decide +kernel
theorem dX5_pass_207 : decode cX5_pass 207 = .ok (.iastore, 1) := by decide +kernel
theorem dX5_pass_208 : decode cX5_pass 208 = .ok (.aload 6, 2) := by decide +kernel
theorem dX5_pass_210 : decode cX5_pass 210 = .ok (.iconst 5, 1) := by decide +kernel
theorem dX5_pass_211 : decode cX5_pass 211 = .ok (.dup2, 1) := by decide +kernel
theorem dX5_pass_212 : decode cX5_pass 212 = .ok (.iaload, 1) := by decide +kernel
theorem dX5_pass_213 : decode cX5_pass 213 = .ok (.iconst 1, 1) := by decide +kernel
theorem dX5_pass_214 : decode cX5_pass 214 = .ok (.iadd, 1) := by decide +kernel
theorem dX5_pass_215 : decode cX5_pass 215 = .ok (.iastore, 1) := by decide +kernel
theorem dX5_pass_216 : decode cX5_pass 216 = .ok (.aload 4, 2) := by decide +kernel
theorem dX5_pass_218 : decode cX5_pass 218 = .ok (.iconst 2, 1) := by decide +kernel
theorem dX5_pass_219 : decode cX5_pass 219 = .ok (.dup2, 1) := by decide +kernel
theorem dX5_pass_220 : decode cX5_pass 220 = .ok (.iaload, 1) := by decide +kernel
theorem dX5_pass_221 : decode cX5_pass 221 = .ok (.iconst 1, 1) := by decide +kernel
theorem dX5_pass_222 : decode cX5_pass 222 = .ok (.isub, 1) := by decide +kernel
theorem dX5_pass_223 : decode cX5_pass 223 = .ok (.iastore, 1) := by decide +kernel
theorem dX5_pass_224 : decode cX5_pass 224 = .ok (.aload 4, 2) := by decide +kernel
theorem dX5_pass_226 : decode cX5_pass 226 = .ok (.iconst 2, 1) := by decide +kernel
theorem dX5_pass_227 : decode cX5_pass 227 = .ok (.iaload, 1) := by decide +kernel
theorem dX5_pass_228 : decode cX5_pass 228 = .ok (.ifCond .le 6, 3) := by decide +kernel
theorem dX5_pass_231 : decode cX5_pass 231 = .ok (.goto 39, 3) := by decide +kernel
theorem dX5_pass_234 : decode cX5_pass 234 = .ok (.aload 4, 2) := by decide +kernel
theorem dX5_pass_236 : decode cX5_pass 236 = .ok (.iconst 0, 1) := by decide +kernel
theorem dX5_pass_237 : decode cX5_pass 237 = .ok (.aload 4, 2) := by decide +kernel
theorem dX5_pass_239 : decode cX5_pass 239 = .ok (.bipush 8, 2) := by decide +kernel
theorem dX5_pass_241 : decode cX5_pass 241 = .ok (.iaload, 1) := by decide +kernel
theorem dX5_pass_242 : decode cX5_pass 242 = .ok (.iastore, 1) := by decide +kernel
theorem dX5_pass_243 : decode cX5_pass 243 = .ok (.aload 4, 2) := by decide +kernel
theorem dX5_pass_245 : decode cX5_pass 245 = .ok (.iconst 1, 1) := by decide +kernel
theorem dX5_pass_246 : decode cX5_pass 246 = .ok (.iconst (-1), 1) := by decide +kernel
theorem dX5_pass_247 : decode cX5_pass 247 = .ok (.iastore, 1) := by decide +kernel
theorem dX5_pass_248 : decode cX5_pass 248 = .ok (.aload 4, 2) := by decide +kernel
theorem dX5_pass_250 : decode cX5_pass 250 = .ok (.iconst 0, 1) := by decide +kernel
theorem dX5_pass_251 : decode cX5_pass 251 = .ok (.iaload, 1) := by decide +kernel
theorem dX5_pass_252 : decode cX5_pass 252 = .ok (.aload 4, 2) := by decide +kernel
theorem dX5_pass_254 : decode cX5_pass 254 = .ok (.iconst 4, 1) := by decide +kernel
theorem dX5_pass_255 : decode cX5_pass 255 = .ok (.iaload, 1) := by decide +kernel
theorem dX5_pass_256 : decode cX5_pass 256 = .ok (.if_icmp .ne 14, 3) := by decide +kernel
theorem dX5_pass_259 : decode cX5_pass 259 = .ok (.aload 4, 2) := by decide +kernel
theorem dX5_pass_261 : decode cX5_pass 261 = .ok (.bipush 7, 2) := by decide +kernel
theorem dX5_pass_263 : decode cX5_pass 263 = .ok (.aload_n 0, 1) := by decide +kernel
theorem dX5_pass_264 : decode cX5_pass 264 = .ok (.getfield 42, 3) := by decide +kernel
theorem dX5_pass_267 : decode cX5_pass 267 = .ok (.iconst 1, 1) := by decide +kernel
theorem dX5_pass_268 : decode cX5_pass 268 = .ok (.iadd, 1) := by decide +kernel
theorem dX5_pass_269 : decode cX5_pass 269 = .ok (.iastore, 1) := by decide +kernel
theorem dX5_pass_270 : decode cX5_pass 270 = .ok (.iinc 3 1, 3) := by decide +kernel
theorem dX5_pass_273 : decode cX5_pass 273 = .ok (.goto (-186), 3) := by decide +kernel
theorem dX5_pass_276 : decode cX5_pass 276 = .ok (.iconst 0, 1) := by decide +kernel
theorem dX5_pass_277 : decode cX5_pass 277 = .ok (.istore_n 1, 1) := by decide +kernel
theorem dX5_pass_278 : decode cX5_pass 278 = .ok (.iload_n 1, 1) := by decide +kernel
theorem dX5_pass_279 : decode cX5_pass 279 = .ok (.aload_n 0, 1) := by decide +kernel
theorem dX5_pass_280 : decode cX5_pass 280 = .ok (.getfield 9, 3) := by decide +kernel
theorem dX5_pass_283 : decode cX5_pass 283 = .ok (.arraylength, 1) := by decide +kernel
theorem dX5_pass_284 : decode cX5_pass 284 = .ok (.if_icmp .ge 49, 3) := by decide +kernel
theorem dX5_pass_287 : decode cX5_pass 287 = .ok (.aload_n 0, 1) := by decide +kernel
theorem dX5_pass_288 : decode cX5_pass 288 = .ok (.getfield 9, 3) := by decide +kernel
theorem dX5_pass_291 : decode cX5_pass 291 = .ok (.iload_n 1, 1) := by decide +kernel
theorem dX5_pass_292 : decode cX5_pass 292 = .ok (.aaload, 1) := by decide +kernel
theorem dX5_pass_293 : decode cX5_pass 293 = .ok (.iconst 4, 1) := by decide +kernel
theorem dX5_pass_294 : decode cX5_pass 294 = .ok (.iaload, 1) := by decide +kernel
theorem dX5_pass_295 : decode cX5_pass 295 = .ok (.ifCond .ne 32, 3) := by decide +kernel
theorem dX5_pass_298 : decode cX5_pass 298 = .ok (.aload_n 0, 1) := by decide +kernel
theorem dX5_pass_299 : decode cX5_pass 299 = .ok (.getfield 9, 3) := by decide +kernel
theorem dX5_pass_302 : decode cX5_pass 302 = .ok (.iload_n 1, 1) := by decide +kernel
theorem dX5_pass_303 : decode cX5_pass 303 = .ok (.aaload, 1) := by decide +kernel
theorem dX5_pass_304 : decode cX5_pass 304 = .ok (.iconst 5, 1) := by decide +kernel
theorem dX5_pass_305 : decode cX5_pass 305 = .ok (.iaload, 1) := by decide +kernel
theorem dX5_pass_306 : decode cX5_pass 306 = .ok (.iconst 4, 1) := by decide +kernel
theorem dX5_pass_307 : decode cX5_pass 307 = .ok (.if_icmp .le 20, 3) := by decide +kernel
theorem dX5_pass_310 : decode cX5_pass 310 = .ok (.aload_n 0, 1) := by decide +kernel
theorem dX5_pass_311 : decode cX5_pass 311 = .ok (.iload_n 1, 1) := by decide +kernel
theorem dX5_pass_312 : decode cX5_pass 312 = .ok (.invokevirtual 45, 3) := by decide +kernel
theorem dX5_pass_315 : decode cX5_pass 315 = .ok (.ifCond .ne 12, 3) := by decide +kernel
theorem dX5_pass_318 : decode cX5_pass 318 = .ok (.aload_n 0, 1) := by decide +kernel
theorem dX5_pass_319 : decode cX5_pass 319 = .ok (.getfield 9, 3) := by decide +kernel
theorem dX5_pass_322 : decode cX5_pass 322 = .ok (.iload_n 1, 1) := by decide +kernel
theorem dX5_pass_323 : decode cX5_pass 323 = .ok (.aaload, 1) := by decide +kernel
theorem dX5_pass_324 : decode cX5_pass 324 = .ok (.iconst 4, 1) := by decide +kernel
theorem dX5_pass_325 : decode cX5_pass 325 = .ok (.iconst 4, 1) := by decide +kernel
theorem dX5_pass_326 : decode cX5_pass 326 = .ok (.iastore, 1) := by decide +kernel
theorem dX5_pass_327 : decode cX5_pass 327 = .ok (.iinc 1 1, 3) := by decide +kernel
theorem dX5_pass_330 : decode cX5_pass 330 = .ok (.goto (-52), 3) := by decide +kernel
theorem dX5_pass_333 : decode cX5_pass 333 = .ok (.aload_n 0, 1) := by decide +kernel
theorem dX5_pass_334 : decode cX5_pass 334 = .ok (.dup, 1) := by decide +kernel
theorem dX5_pass_335 : decode cX5_pass 335 = .ok (.getfield 42, 3) := by decide +kernel
theorem dX5_pass_338 : decode cX5_pass 338 = .ok (.iconst 1, 1) := by decide +kernel
theorem dX5_pass_339 : decode cX5_pass 339 = .ok (.iadd, 1) := by decide +kernel
theorem dX5_pass_340 : decode cX5_pass 340 = .ok (.putfield 42, 3) := by decide +kernel
theorem dX5_pass_343 : decode cX5_pass 343 = .ok (.return_, 1) := by decide +kernel
theorem dX5_arrived_0 : decode cX5_arrived 0 = .ok (.iconst 0, 1) := by decide +kernel
theorem dX5_arrived_1 : decode cX5_arrived 1 = .ok (.istore_n 1, 1) := by decide +kernel
theorem dX5_arrived_2 : decode cX5_arrived 2 = .ok (.aload_n 0, 1) := by decide +kernel
theorem dX5_arrived_3 : decode cX5_arrived 3 = .ok (.getfield 15, 3) := by decide +kernel
theorem dX5_arrived_6 : decode cX5_arrived 6 = .ok (.astore_n 2, 1) := by decide +kernel
theorem dX5_arrived_7 : decode cX5_arrived 7 = .ok (.aload_n 2, 1) := by decide +kernel
theorem dX5_arrived_8 : decode cX5_arrived 8 = .ok (.arraylength, 1) := by decide +kernel
theorem dX5_arrived_9 : decode cX5_arrived 9 = .ok (.istore_n 3, 1) := by decide +kernel
theorem dX5_arrived_10 : decode cX5_arrived 10 = .ok (.iconst 0, 1) := by decide +kernel
theorem dX5_arrived_11 : decode cX5_arrived 11 = .ok (.istore 4, 2) := by decide +kernel
theorem dX5_arrived_13 : decode cX5_arrived 13 = .ok (.iload 4, 2) := by decide +kernel
theorem dX5_arrived_15 : decode cX5_arrived 15 = .ok (.iload_n 3, 1) := by decide +kernel
theorem dX5_arrived_16 : decode cX5_arrived 16 = .ok (.if_icmp .ge 26, 3) := by decide +kernel
theorem dX5_arrived_19 : decode cX5_arrived 19 = .ok (.aload_n 2, 1) := by decide +kernel
theorem dX5_arrived_20 : decode cX5_arrived 20 = .ok (.iload 4, 2) := by decide +kernel
theorem dX5_arrived_22 : decode cX5_arrived 22 = .ok (.aaload, 1) := by decide +kernel
theorem dX5_arrived_23 : decode cX5_arrived 23 = .ok (.astore 5, 2) := by decide +kernel
theorem dX5_arrived_25 : decode cX5_arrived 25 = .ok (.aload 5, 2) := by decide +kernel
theorem dX5_arrived_27 : decode cX5_arrived 27 = .ok (.bipush 7, 2) := by decide +kernel
theorem dX5_arrived_29 : decode cX5_arrived 29 = .ok (.iaload, 1) := by decide +kernel
theorem dX5_arrived_30 : decode cX5_arrived 30 = .ok (.ifCond .lt 6, 3) := by decide +kernel
theorem dX5_arrived_33 : decode cX5_arrived 33 = .ok (.iinc 1 1, 3) := by decide +kernel
theorem dX5_arrived_36 : decode cX5_arrived 36 = .ok (.iinc 4 1, 3) := by decide +kernel
theorem dX5_arrived_39 : decode cX5_arrived 39 = .ok (.goto (-26), 3) := by decide +kernel
theorem dX5_arrived_42 : decode cX5_arrived 42 = .ok (.iload_n 1, 1) := by decide +kernel
theorem dX5_arrived_43 : decode cX5_arrived 43 = .ok (.ireturn, 1) := by decide +kernel
theorem dX5_behind_0 : decode cX5_behind 0 = .ok (.aload_n 0, 1) := by decide +kernel
theorem dX5_behind_1 : decode cX5_behind 1 = .ok (.invokevirtual 49, 3) := by decide +kernel
theorem dX5_behind_4 : decode cX5_behind 4 = .ok (.istore_n 2, 1) := by decide +kernel
theorem dX5_behind_5 : decode cX5_behind 5 = .ok (.iconst 0, 1) := by decide +kernel
theorem dX5_behind_6 : decode cX5_behind 6 = .ok (.istore_n 3, 1) := by decide +kernel
theorem dX5_behind_7 : decode cX5_behind 7 = .ok (.iload_n 3, 1) := by decide +kernel
theorem dX5_behind_8 : decode cX5_behind 8 = .ok (.iload_n 1, 1) := by decide +kernel
theorem dX5_behind_9 : decode cX5_behind 9 = .ok (.if_icmp .ge 13, 3) := by decide +kernel
theorem dX5_behind_12 : decode cX5_behind 12 = .ok (.aload_n 0, 1) := by decide +kernel
theorem dX5_behind_13 : decode cX5_behind 13 = .ok (.invokevirtual 53, 3) := by decide +kernel
theorem dX5_behind_16 : decode cX5_behind 16 = .ok (.iinc 3 1, 3) := by decide +kernel
theorem dX5_behind_19 : decode cX5_behind 19 = .ok (.goto (-12), 3) := by decide +kernel
theorem dX5_behind_22 : decode cX5_behind 22 = .ok (.aload_n 0, 1) := by decide +kernel
theorem dX5_behind_23 : decode cX5_behind 23 = .ok (.invokevirtual 49, 3) := by decide +kernel
theorem dX5_behind_26 : decode cX5_behind 26 = .ok (.iload_n 2, 1) := by decide +kernel
theorem dX5_behind_27 : decode cX5_behind 27 = .ok (.isub, 1) := by decide +kernel
theorem dX5_behind_28 : decode cX5_behind 28 = .ok (.ireturn, 1) := by decide +kernel
theorem dX5_fray_0 : decode cX5_fray 0 = .ok (.iconst 0, 1) := by decide +kernel
theorem dX5_fray_1 : decode cX5_fray 1 = .ok (.aload_n 1, 1) := by decide +kernel
theorem dX5_fray_2 : decode cX5_fray 2 = .ok (.bipush 7, 2) := by decide +kernel
theorem dX5_fray_4 : decode cX5_fray 4 = .ok (.iaload, 1) := by decide +kernel
