theorem dX10_thrown_0 : decode cX10_thrown 0 = .ok (.aload_n 0, 1) := by decide +kernel
theorem dX10_thrown_1 : decode cX10_thrown 1 = .ok (.getfield 1, 3) := by decide +kernel
theorem dX10_thrown_4 : decode cX10_thrown 4 = .ok (.ireturn, 1) := by decide +kernel
theorem dX10_in_0 : decode cX10_in 0 = .ok (.iload_n 0, 1) := by decide +kernel
theorem dX10_in_1 : decode cX10_in 1 = .ok (.iload_n 1, 1) := by decide +kernel
theorem dX10_in_2 : decode cX10_in 2 = .ok (.if_icmp .lt 12, 3) := by decide +kernel
theorem dX10_in_5 : decode cX10_in 5 = .ok (.iload_n 0, 1) := by decide +kernel
theorem dX10_in_6 : decode cX10_in 6 = .ok (.iload_n 2, 1) := by decide +kernel
theorem dX10_in_7 : decode cX10_in 7 = .ok (.if_icmp .gt 7, 3) := by decide +kernel
theorem dX10_in_10 : decode cX10_in 10 = .ok (.iconst 1, 1) := by decide +kernel
theorem dX10_in_11 : decode cX10_in 11 = .ok (.goto 4, 3) := by decide +kernel
theorem dX10_in_14 : decode cX10_in 14 = .ok (.iconst 0, 1) := by decide +kernel
theorem dX10_in_15 : decode cX10_in 15 = .ok (.ireturn, 1) := by decide +kernel
theorem dX10_fails_0 : decode cX10_fails 0 = .ok (.iload_n 1, 1) := by decide +kernel
theorem dX10_fails_1 : decode cX10_fails 1 = .ok (.ifCond .ne 15, 3) := by decide +kernel
theorem dX10_fails_4 : decode cX10_fails 4 = .ok (.aload_n 0, 1) := by decide +kernel
theorem dX10_fails_5 : decode cX10_fails 5 = .ok (.getfield 1, 3) := by decide +kernel
theorem dX10_fails_8 : decode cX10_fails 8 = .ok (.ifCond .ne 8, 3) := by decide +kernel
theorem dX10_fails_11 : decode cX10_fails 11 = .ok (.aload_n 0, 1) := by decide +kernel
theorem dX10_fails_12 : decode cX10_fails 12 = .ok (.iload_n 2, 1) := by decide +kernel
theorem dX10_fails_13 : decode cX10_fails 13 = .ok (.putfield 1, 3) := by decide +kernel
theorem dX10_fails_16 : decode cX10_fails 16 = .ok (.aload_n 0, 1) := by decide +kernel
theorem dX10_fails_17 : decode cX10_fails 17 = .ok (.getfield 1, 3) := by decide +kernel
theorem dX10_fails_20 : decode cX10_fails 20 = .ok (.ifCond .eq 7, 3) := by decide +kernel
theorem dX10_fails_23 : decode cX10_fails 23 = .ok (.iconst 1, 1) := by decide +kernel
theorem dX10_fails_24 : decode cX10_fails 24 = .ok (.goto 4, 3) := by decide +kernel
theorem dX10_fails_27 : decode cX10_fails 27 = .ok (.iconst 0, 1) := by decide +kernel
theorem dX10_fails_28 : decode cX10_fails 28 = .ok (.ireturn, 1) := by decide +kernel
theorem dX10_init_0 : decode cX10_init 0 = .ok (.aload_n 0, 1) := by decide +kernel
theorem dX10_init_1 : decode cX10_init 1 = .ok (.invokespecial 7, 3) := by decide +kernel
theorem dX10_init_4 : decode cX10_init 4 = .ok (.aload_n 0, 1) := by decide +kernel
theorem dX10_init_5 : decode cX10_init 5 = .ok (.sipush 202, 3) := by decide +kernel
theorem dX10_init_8 : decode cX10_init 8 = .ok (.newarray .int, 2) := by decide +kernel
theorem dX10_init_10 : decode cX10_init 10 = .ok (.putfield 13, 3) := by decide +kernel
theorem dX10_init_13 : decode cX10_init 13 = .ok (.aload_n 0, 1) := by decide +kernel
theorem dX10_init_14 : decode cX10_init 14 = .ok (.sipush 202, 3) := by decide +kernel
theorem dX10_init_17 : decode cX10_init 17 = .ok (.newarray .int, 2) := by decide +kernel
theorem dX10_init_19 : decode cX10_init 19 = .ok (.putfield 17, 3) := by decide +kernel
theorem dX10_init_22 : decode cX10_init 22 = .ok (.aload_n 0, 1) := by decide +kernel
theorem dX10_init_23 : decode cX10_init 23 = .ok (.iconst 2, 1) := by decide +kernel
theorem dX10_init_24 : decode cX10_init 24 = .ok (.newarray .int, 2) := by decide +kernel
theorem dX10_init_26 : decode cX10_init 26 = .ok (.putfield 20, 3) := by decide +kernel
theorem dX10_init_29 : decode cX10_init 29 = .ok (.aload_n 0, 1) := by decide +kernel
theorem dX10_init_30 : decode cX10_init 30 = .ok (.iconst 4, 1) := by decide +kernel
theorem dX10_init_31 : decode cX10_init 31 = .ok (.putfield 23, 3) := by decide +kernel
theorem dX10_init_34 : decode cX10_init 34 = .ok (.aload_n 0, 1) := by decide +kernel
theorem dX10_init_35 : decode cX10_init 35 = .ok (.iconst (-1), 1) := by decide +kernel
theorem dX10_init_36 : decode cX10_init 36 = .ok (.putfield 26, 3) := by decide +kernel
theorem dX10_init_39 : decode cX10_init 39 = .ok (.aload_n 0, 1) := by decide +kernel
theorem dX10_init_40 : decode cX10_init 40 = .ok (.iconst 2, 1) := by decide +kernel
theorem dX10_init_41 : decode cX10_init 41 = .ok (.newarray .int, 2) := by decide +kernel
theorem dX10_init_43 : decode cX10_init 43 = .ok (.dup, 1) := by decide +kernel
theorem dX10_init_44 : decode cX10_init 44 = .ok (.iconst 0, 1) := by decide +kernel
theorem dX10_init_45 : decode cX10_init 45 = .ok (.iconst (-1), 1) := by decide +kernel
theorem dX10_init_46 : decode cX10_init 46 = .ok (.iastore, 1) := by decide +kernel
theorem dX10_init_47 : decode cX10_init 47 = .ok (.dup, 1) := by decide +kernel
theorem dX10_init_48 : decode cX10_init 48 = .ok (.iconst 1, 1) := by decide +kernel
theorem dX10_init_49 : decode cX10_init 49 = .ok (.iconst (-1), 1) := by decide +kernel
theorem dX10_init_50 : decode cX10_init 50 = .ok (.iastore, 1) := by decide +kernel
theorem dX10_init_51 : decode cX10_init 51 = .ok (.putfield 29, 3) := by decide +kernel
theorem dX10_init_54 : decode cX10_init 54 = .ok (.aload_n 0, 1) := by decide +kernel
theorem dX10_init_55 : decode cX10_init 55 = .ok (.iconst 2, 1) := by decide +kernel
theorem dX10_init_56 : decode cX10_init 56 = .ok (.newarray .boolean, 2) := by decide +kernel
theorem dX10_init_58 : decode cX10_init 58 = .ok (.putfield 32, 3) := by decide +kernel
theorem dX10_init_61 : decode cX10_init 61 = .ok (.aload_n 0, 1) := by decide +kernel
theorem dX10_init_62 : decode cX10_init 62 = .ok (.bipush 90, 2) := by decide +kernel
theorem dX10_init_64 : decode cX10_init 64 = .ok (.newarray .int, 2) := by decide +kernel
theorem dX10_init_66 : decode cX10_init 66 = .ok (.putfield 36, 3) := by decide +kernel
theorem dX10_init_69 : decode cX10_init 69 = .ok (.aload_n 0, 1) := by decide +kernel
theorem dX10_init_70 : decode cX10_init 70 = .ok (.bipush 9, 2) := by decide +kernel
theorem dX10_init_72 : decode cX10_init 72 = .ok (.newarray .int, 2) := by decide +kernel
theorem dX10_init_74 : decode cX10_init 74 = .ok (.putfield 39, 3) := by decide +kernel
theorem dX10_init_77 : decode cX10_init 77 = .ok (.aload_n 0, 1) := by decide +kernel
theorem dX10_init_78 : decode cX10_init 78 = .ok (.bipush 9, 2) := by decide +kernel
theorem dX10_init_80 : decode cX10_init 80 = .ok (.newarray .int, 2) := by decide +kernel
theorem dX10_init_82 : decode cX10_init 82 = .ok (.putfield 42, 3) := by decide +kernel
theorem dX10_init_85 : decode cX10_init 85 = .ok (.aload_n 0, 1) := by decide +kernel
theorem dX10_init_86 : decode cX10_init 86 = .ok (.sipush 1000, 3) := by decide +kernel
theorem dX10_init_89 : decode cX10_init 89 = .ok (.newarray .int, 2) := by decide +kernel
theorem dX10_init_91 : decode cX10_init 91 = .ok (.putfield 45, 3) := by decide +kernel
theorem dX10_init_94 : decode cX10_init 94 = .ok (.aload_n 0, 1) := by decide +kernel
theorem dX10_init_95 : decode cX10_init 95 = .ok (.bipush 100, 2) := by decide +kernel
theorem dX10_init_97 : decode cX10_init 97 = .ok (.newarray .boolean, 2) := by decide +kernel
theorem dX10_init_99 : decode cX10_init 99 = .ok (.putfield 48, 3) := by decide +kernel
theorem dX10_init_102 : decode cX10_init 102 = .ok (.aload_n 0, 1) := by decide +kernel
theorem dX10_init_103 : decode cX10_init 103 = .ok (.sipush 300, 3) := by decide +kernel
theorem dX10_init_106 : decode cX10_init 106 = .ok (.newarray .int, 2) := by decide +kernel
theorem dX10_init_108 : decode cX10_init 108 = .ok (.putfield 51, 3) := by decide +kernel
theorem dX10_init_111 : decode cX10_init 111 = .ok (.aload_n 0, 1) := by decide +kernel
theorem dX10_init_112 : decode cX10_init 112 = .ok (.sipush 300, 3) := by decide +kernel
theorem dX10_init_115 : decode cX10_init 115 = .ok (.newarray .int, 2) := by decide +kernel
theorem dX10_init_117 : decode cX10_init 117 = .ok (.putfield 54, 3) := by decide +kernel
theorem dX10_init_120 : decode cX10_init 120 = .ok (.aload_n 0, 1) := by decide +kernel
theorem dX10_init_121 : decode cX10_init 121 = .ok (.sipush 300, 3) := by decide +kernel
theorem dX10_init_124 : decode cX10_init 124 = .ok (.newarray .int, 2) := by decide +kernel
theorem dX10_init_126 : decode cX10_init 126 = .ok (.putfield 57, 3) := by decide +kernel
theorem dX10_init_129 : decode cX10_init 129 = .ok (.aload_n 0, 1) := by decide +kernel
theorem dX10_init_130 : decode cX10_init 130 = .ok (.iconst (-1), 1) := by decide +kernel
theorem dX10_init_131 : decode cX10_init 131 = .ok (.putfield 60, 3) := by decide +kernel
theorem dX10_init_134 : decode cX10_init 134 = .ok (.aload_n 0, 1) := by decide +kernel
theorem dX10_init_135 : decode cX10_init 135 = .ok (.iconst 4, 1) := by decide +kernel
theorem dX10_init_136 : decode cX10_init 136 = .ok (.newarray .int, 2) := by decide +kernel
theorem dX10_init_138 : decode cX10_init 138 = .ok (.putfield 63, 3) := by decide +kernel
theorem dX10_init_141 : decode cX10_init 141 = .ok (.aload_n 0, 1) := by decide +kernel
theorem dX10_init_142 : decode cX10_init 142 = .ok (.iconst 4, 1) := by decide +kernel
theorem dX10_init_143 : decode cX10_init 143 = .ok (.newarray .int, 2) := by decide +kernel
theorem dX10_init_145 : decode cX10_init 145 = .ok (.putfield 66, 3) := by decide +kernel
theorem dX10_init_148 : decode cX10_init 148 = .ok (.aload_n 0, 1) := by decide +kernel
theorem dX10_init_149 : decode cX10_init 149 = .ok (.bipush 64, 2) := by decide +kernel
theorem dX10_init_151 : decode cX10_init 151 = .ok (.newarray .int, 2) := by decide +kernel
theorem dX10_init_153 : decode cX10_init 153 = .ok (.putfield 69, 3) := by decide +kernel
theorem dX10_init_156 : decode cX10_init 156 = .ok (.aload_n 0, 1) := by decide +kernel
theorem dX10_init_157 : decode cX10_init 157 = .ok (.bipush 64, 2) := by decide +kernel
theorem dX10_init_159 : decode cX10_init 159 = .ok (.newarray .int, 2) := by decide +kernel
theorem dX10_init_161 : decode cX10_init 161 = .ok (.putfield 72, 3) := by decide +kernel
theorem dX10_init_164 : decode cX10_init 164 = .ok (.aload_n 0, 1) := by decide +kernel
theorem dX10_init_165 : decode cX10_init 165 = .ok (.bipush 9, 2) := by decide +kernel
theorem dX10_init_167 : decode cX10_init 167 = .ok (.newarray .int, 2) := by decide +kernel
theorem dX10_init_169 : decode cX10_init 169 = .ok (.putfield 75, 3) := by decide +kernel
theorem dX10_init_172 : decode cX10_init 172 = .ok (.aload_n 0, 1) := by decide +kernel
theorem dX10_init_173 : decode cX10_init 173 = .ok (.bipush 16, 2) := by decide +kernel
theorem dX10_init_175 : decode cX10_init 175 = .ok (.newarray .boolean, 2) := by decide +kernel
theorem dX10_init_177 : decode cX10_init 177 = .ok (.putfield 78, 3) := by decide +kernel
theorem dX10_init_180 : decode cX10_init 180 = .ok (.aload_n 0, 1) := by decide +kernel
theorem dX10_init_181 : decode cX10_init 181 = .ok (.iconst 2, 1) := by decide +kernel
theorem dX10_init_182 : decode cX10_init 182 = .ok (.putfield 81, 3) := by decide +kernel
theorem dX10_init_185 : decode cX10_init 185 = .ok (.iconst 0, 1) := by decide +kernel
theorem dX10_init_186 : decode cX10_init 186 = .ok (.istore_n 1, 1) := by decide +kernel
theorem dX10_init_187 : decode cX10_init 187 = .ok (.iload_n 1, 1) := by decide +kernel
theorem dX10_init_188 : decode cX10_init 188 = .ok (.bipush 64, 2) := by decide +kernel
theorem dX10_init_190 : decode cX10_init 190 = .ok (.if_icmp .ge 16, 3) := by decide +kernel
theorem dX10_init_193 : decode cX10_init 193 = .ok (.aload_n 0, 1) := by decide +kernel
theorem dX10_init_194 : decode cX10_init 194 = .ok (.getfield 69, 3) := by decide +kernel
theorem dX10_init_197 : decode cX10_init 197 = .ok (.iload_n 1, 1) := by decide +kernel
theorem dX10_init_198 : decode cX10_init 198 = .ok (.iload_n 1, 1) := by decide +kernel
theorem dX10_init_199 : decode cX10_init 199 = .ok (.iastore, 1) := by decide +kernel
theorem dX10_init_200 : decode cX10_init 200 = .ok (.iinc 1 1, 3) := by decide +kernel
theorem dX10_init_203 : decode cX10_init 203 = .ok (.goto (-16), 3) := by decide +kernel
theorem dX10_init_206 : decode cX10_init 206 = .ok (.return_, 1) := by decide +kernel
theorem dX10_noMap_0 : decode cX10_noMap 0 = .ok (.aload_n 0, 1) := by decide +kernel
theorem dX10_noMap_1 : decode cX10_noMap 1 = .ok (.iload_n 1, 1) := by decide +kernel
theorem dX10_noMap_2 : decode cX10_noMap 2 = .ok (.iconst 0, 1) := by decide +kernel
theorem dX10_noMap_3 : decode cX10_noMap 3 = .ok (.iconst 1, 1) := by decide +kernel
theorem dX10_noMap_4 : decode cX10_noMap 4 = .ok (.invokestatic 84, 3) := by decide +kernel
theorem dX10_noMap_7 : decode cX10_noMap 7 = .ok (.iconst 1, 1) := by decide +kernel
theorem dX10_noMap_8 : decode cX10_noMap 8 = .ok (.invokevirtual 88, 3) := by decide +kernel
theorem dX10_noMap_11 : decode cX10_noMap 11 = .ok (.ireturn, 1) := by decide +kernel
theorem dX10_noKey_0 : decode cX10_noKey 0 = .ok (.aload_n 0, 1) := by decide +kernel
theorem dX10_noKey_1 : decode cX10_noKey 1 = .ok (.iload_n 1, 1) := by decide +kernel
theorem dX10_noKey_2 : decode cX10_noKey 2 = .ok (.invokevirtual 92, 3) := by decide +kernel
theorem dX10_noKey_5 : decode cX10_noKey 5 = .ok (.ifCond .ne 18, 3) := by decide +kernel
theorem dX10_noKey_8 : decode cX10_noKey 8 = .ok (.aload_n 0, 1) := by decide +kernel
theorem dX10_noKey_9 : decode cX10_noKey 9 = .ok (.iload_n 2, 1) := by decide +kernel
theorem dX10_noKey_10 : decode cX10_noKey 10 = .ok (.iconst 0, 1) := by decide +kernel
theorem dX10_noKey_11 : decode cX10_noKey 11 = .ok (.bipush 99, 2) := by decide +kernel
theorem dX10_noKey_13 : decode cX10_noKey 13 = .ok (.invokestatic 84, 3) := by decide +kernel
theorem dX10_noKey_16 : decode cX10_noKey 16 = .ok (.iconst 1, 1) := by decide +kernel
theorem dX10_noKey_17 : decode cX10_noKey 17 = .ok (.invokevirtual 88, 3) := by decide +kernel
theorem dX10_noKey_20 : decode cX10_noKey 20 = .ok (.ifCond .eq 7, 3) := by decide +kernel
theorem dX10_noKey_23 : decode cX10_noKey 23 = .ok (.iconst 1, 1) := by decide +kernel
theorem dX10_noKey_24 : decode cX10_noKey 24 = .ok (.goto 4, 3) := by decide +kernel
theorem dX10_noKey_27 : decode cX10_noKey 27 = .ok (.iconst 0, 1) := by decide +kernel
theorem dX10_noKey_28 : decode cX10_noKey 28 = .ok (.ireturn, 1) := by decide +kernel
theorem dX10_placeIn_0 : decode cX10_placeIn 0 = .ok (.iconst 0, 1) := by decide +kernel
theorem dX10_placeIn_1 : decode cX10_placeIn 1 = .ok (.istore_n 3, 1) := by decide +kernel
theorem dX10_placeIn_2 : decode cX10_placeIn 2 = .ok (.iload_n 3, 1) := by decide +kernel
theorem dX10_placeIn_3 : decode cX10_placeIn 3 = .ok (.aload_n 0, 1) := by decide +kernel
theorem dX10_placeIn_4 : decode cX10_placeIn 4 = .ok (.getfield 20, 3) := by decide +kernel
theorem dX10_placeIn_7 : decode cX10_placeIn 7 = .ok (.iload_n 1, 1) := by decide +kernel
theorem dX10_placeIn_8 : decode cX10_placeIn 8 = .ok (.iaload, 1) := by decide +kernel
theorem dX10_placeIn_9 : decode cX10_placeIn 9 = .ok (.if_icmp .ge 26, 3) := by decide +kernel
theorem dX10_placeIn_12 : decode cX10_placeIn 12 = .ok (.aload_n 0, 1) := by decide +kernel
theorem dX10_placeIn_13 : decode cX10_placeIn 13 = .ok (.getfield 13, 3) := by decide +kernel
theorem dX10_placeIn_16 : decode cX10_placeIn 16 = .ok (.bipush 101, 2) := by decide +kernel
theorem dX10_placeIn_18 : decode cX10_placeIn 18 = .ok (.iload_n 1, 1) := by decide +kernel
theorem dX10_placeIn_19 : decode cX10_placeIn 19 = .ok (.imul, 1) := by decide +kernel
theorem dX10_placeIn_20 : decode cX10_placeIn 20 = .ok (.iload_n 3, 1) := by decide +kernel
theorem dX10_placeIn_21 : decode cX10_placeIn 21 = .ok (.iadd, 1) := by decide +kernel
theorem dX10_placeIn_22 : decode cX10_placeIn 22 = .ok (.iaload, 1) := by decide +kernel
theorem dX10_placeIn_23 : decode cX10_placeIn 23 = .ok (.iload_n 2, 1) := by decide +kernel
theorem dX10_placeIn_24 : decode cX10_placeIn 24 = .ok (.if_icmp .ne 5, 3) := by decide +kernel
theorem dX10_placeIn_27 : decode cX10_placeIn 27 = .ok (.iload_n 3, 1) := by decide +kernel
theorem dX10_placeIn_28 : decode cX10_placeIn 28 = .ok (.ireturn, 1) := by decide +kernel
theorem dX10_placeIn_29 : decode cX10_placeIn 29 = .ok (.iinc 3 1, 3) := by decide +kernel
theorem dX10_placeIn_32 : decode cX10_placeIn 32 = .ok (.goto (-30), 3) := by decide +kernel
theorem dX10_placeIn_35 : decode cX10_placeIn 35 = .ok (.iconst (-1), 1) := by decide +kernel
theorem dX10_placeIn_36 : decode cX10_placeIn 36 = .ok (.ireturn, 1) := by decide +kernel
theorem dX10_takes_0 : decode cX10_takes 0 = .ok (.aload_n 0, 1) := by decide +kernel
theorem dX10_takes_1 : decode cX10_takes 1 = .ok (.getfield 17, 3) := by decide +kernel
theorem dX10_takes_4 : decode cX10_takes 4 = .ok (.bipush 101, 2) := by decide +kernel
theorem dX10_takes_6 : decode cX10_takes 6 = .ok (.iload_n 1, 1) := by decide +kernel
theorem dX10_takes_7 : decode cX10_takes 7 = .ok (.imul, 1) := by decide +kernel
theorem dX10_takes_8 : decode cX10_takes 8 = .ok (.iload_n 2, 1) := by decide +kernel
theorem dX10_takes_9 : decode cX10_takes 9 = .ok (.iadd, 1) := by decide +kernel
theorem dX10_takes_10 : decode cX10_takes 10 = .ok (.iaload, 1) := by decide +kernel
theorem dX10_takes_11 : decode cX10_takes 11 = .ok (.istore_n 3, 1) := by decide +kernel
theorem dX10_takes_12 : decode cX10_takes 12 = .ok (.aload_n 0, 1) := by decide +kernel
theorem dX10_takes_13 : decode cX10_takes 13 = .ok (.getfield 20, 3) := by decide +kernel
theorem dX10_takes_16 : decode cX10_takes 16 = .ok (.iload_n 1, 1) := by decide +kernel
theorem dX10_takes_17 : decode cX10_takes 17 = .ok (.dup2, 1) := by decide +kernel
theorem dX10_takes_18 : decode cX10_takes 18 = .ok (.iaload, 1) := by decide +kernel
theorem dX10_takes_19 : decode cX10_takes 19 = .ok (.iconst 1, 1) := by decide +kernel
theorem dX10_takes_20 : decode cX10_takes 20 = .ok (.isub, 1) := by decide +kernel
theorem dX10_takes_21 : decode cX10_takes 21 = .ok (.iastore, 1) := by decide +kernel
theorem dX10_takes_22 : decode cX10_takes 22 = .ok (.iload_n 2, 1) := by decide +kernel
theorem dX10_takes_23 : decode cX10_takes 23 = .ok (.istore 4, 2) := by decide +kernel
theorem dX10_takes_25 : decode cX10_takes 25 = .ok (.iload 4, 2) := by decide +kernel
theorem dX10_takes_27 : decode cX10_takes 27 = .ok (.aload_n 0, 1) := by decide +kernel
theorem dX10_takes_28 : decode cX10_takes 28 = .ok (.getfield 20, 3) := by decide +kernel
theorem dX10_takes_31 : decode cX10_takes 31 = .ok (.iload_n 1, 1) := by decide +kernel
theorem dX10_takes_32 : decode cX10_takes 32 = .ok (.iaload, 1) := by decide +kernel
theorem dX10_takes_33 : decode cX10_takes 33 = .ok (.if_icmp .ge 61, 3) := by decide +kernel
theorem dX10_takes_36 : decode cX10_takes 36 = .ok (.aload_n 0, 1) := by decide +kernel
theorem dX10_takes_37 : decode cX10_takes 37 = .ok (.getfield 13, 3) := by decide +kernel
theorem dX10_takes_40 : decode cX10_takes 40 = .ok (.bipush 101, 2) := by decide +kernel
theorem dX10_takes_42 : decode cX10_takes 42 = .ok (.iload_n 1, 1) := by decide +kernel
theorem dX10_takes_43 : decode cX10_takes 43 = .ok (.imul, 1) := by decide +kernel
theorem dX10_takes_44 : decode cX10_takes 44 = .ok (.iload 4, 2) := by decide +kernel
theorem dX10_takes_46 : decode cX10_takes 46 = .ok (.iadd, 1) := by decide +kernel
theorem dX10_takes_47 : decode cX10_takes 47 = .ok (.aload_n 0, 1) := by decide +kernel
theorem dX10_takes_48 : decode cX10_takes 48 = .ok (.getfield 13, 3) := by decide +kernel
theorem dX10_takes_51 : decode cX10_takes 51 = .ok (.bipush 101, 2) := by decide +kernel
theorem dX10_takes_53 : decode cX10_takes 53 = .ok (.iload_n 1, 1) := by decide +kernel
theorem dX10_takes_54 : decode cX10_takes 54 = .ok (.imul, 1) := by decide +kernel
theorem dX10_takes_55 : decode cX10_takes 55 = .ok (.iload 4, 2) := by decide +kernel
theorem dX10_takes_57 : decode cX10_takes 57 = .ok (.iadd, 1) := by decide +kernel
theorem dX10_takes_58 : decode cX10_takes 58 = .ok (.iconst 1, 1) := by decide +kernel
theorem dX10_takes_59 : decode cX10_takes 59 = .ok (.iadd, 1) := by decide +kernel
theorem dX10_takes_60 : decode cX10_takes 60 = .ok (.iaload, 1) := by decide +kernel
theorem dX10_takes_61 : decode cX10_takes 61 = .ok (.iastore, 1) := by decide +kernel
theorem dX10_takes_62 : decode cX10_takes 62 = .ok (.aload_n 0, 1) := by decide +kernel
theorem dX10_takes_63 : decode cX10_takes 63 = .ok (.getfield 17, 3) := by decide +kernel
theorem dX10_takes_66 : decode cX10_takes 66 = .ok (.bipush 101, 2) := by decide +kernel
theorem dX10_takes_68 : decode cX10_takes 68 = .ok (.iload_n 1, 1) := by decide +kernel
theorem dX10_takes_69 : decode cX10_takes 69 = .ok (.imul, 1) := by decide +kernel
theorem dX10_takes_70 : decode cX10_takes 70 = .ok (.iload 4, 2) := by decide +kernel
theorem dX10_takes_72 : decode cX10_takes 72 = .ok (.iadd, 1) := by decide +kernel
theorem dX10_takes_73 : decode cX10_takes 73 = .ok (.aload_n 0, 1) := by decide +kernel
theorem dX10_takes_74 : decode cX10_takes 74 = .ok (.getfield 17, 3) := by decide +kernel
theorem dX10_takes_77 : decode cX10_takes 77 = .ok (.bipush 101, 2) := by decide +kernel
theorem dX10_takes_79 : decode cX10_takes 79 = .ok (.iload_n 1, 1) := by decide +kernel
theorem dX10_takes_80 : decode cX10_takes 80 = .ok (.imul, 1) := by decide +kernel
theorem dX10_takes_81 : decode cX10_takes 81 = .ok (.iload 4, 2) := by decide +kernel
theorem dX10_takes_83 : decode cX10_takes 83 = .ok (.iadd, 1) := by decide +kernel
theorem dX10_takes_84 : decode cX10_takes 84 = .ok (.iconst 1, 1) := by decide +kernel
theorem dX10_takes_85 : decode cX10_takes 85 = .ok (.iadd, 1) := by decide +kernel
theorem dX10_takes_86 : decode cX10_takes 86 = .ok (.iaload, 1) := by decide +kernel
theorem dX10_takes_87 : decode cX10_takes 87 = .ok (.iastore, 1) := by decide +kernel
theorem dX10_takes_88 : decode cX10_takes 88 = .ok (.iinc 4 1, 3) := by decide +kernel
theorem dX10_takes_91 : decode cX10_takes 91 = .ok (.goto (-66), 3) := by decide +kernel
theorem dX10_takes_94 : decode cX10_takes 94 = .ok (.iload_n 3, 1) := by decide +kernel
theorem dX10_takes_95 : decode cX10_takes 95 = .ok (.ireturn, 1) := by decide +kernel
theorem dX10_comes_0 : decode cX10_comes 0 = .ok (.aload_n 0, 1) := by decide +kernel
theorem dX10_comes_1 : decode cX10_comes 1 = .ok (.getfield 13, 3) := by decide +kernel
theorem dX10_comes_4 : decode cX10_comes 4 = .ok (.bipush 101, 2) := by decide +kernel
theorem dX10_comes_6 : decode cX10_comes 6 = .ok (.iload_n 1, 1) := by decide +kernel
theorem dX10_comes_7 : decode cX10_comes 7 = .ok (.imul, 1) := by decide +kernel
theorem dX10_comes_8 : decode cX10_comes 8 = .ok (.aload_n 0, 1) := by decide +kernel
theorem dX10_comes_9 : decode cX10_comes 9 = .ok (.getfield 20, 3) := by decide +kernel
theorem dX10_comes_12 : decode cX10_comes 12 = .ok (.iload_n 1, 1) := by decide +kernel
theorem dX10_comes_13 : decode cX10_comes 13 = .ok (.iaload, 1) := by decide +kernel
theorem dX10_comes_14 : decode cX10_comes 14 = .ok (.iadd, 1) := by decide +kernel
theorem dX10_comes_15 : decode cX10_comes 15 = .ok (.iload_n 2, 1) := by decide +kernel
theorem dX10_comes_16 : decode cX10_comes 16 = .ok (.iastore, 1) := by decide +kernel
theorem dX10_comes_17 : decode cX10_comes 17 = .ok (.aload_n 0, 1) := by decide +kernel
theorem dX10_comes_18 : decode cX10_comes 18 = .ok (.getfield 17, 3) := by decide +kernel
theorem dX10_comes_21 : decode cX10_comes 21 = .ok (.bipush 101, 2) := by decide +kernel
theorem dX10_comes_23 : decode cX10_comes 23 = .ok (.iload_n 1, 1) := by decide +kernel
theorem dX10_comes_24 : decode cX10_comes 24 = .ok (.imul, 1) := by decide +kernel
theorem dX10_comes_25 : decode cX10_comes 25 = .ok (.aload_n 0, 1) := by decide +kernel
theorem dX10_comes_26 : decode cX10_comes 26 = .ok (.getfield 20, 3) := by decide +kernel
theorem dX10_comes_29 : decode cX10_comes 29 = .ok (.iload_n 1, 1) := by decide +kernel
theorem dX10_comes_30 : decode cX10_comes 30 = .ok (.iaload, 1) := by decide +kernel
theorem dX10_comes_31 : decode cX10_comes 31 = .ok (.iadd, 1) := by decide +kernel
theorem dX10_comes_32 : decode cX10_comes 32 = .ok (.iload_n 3, 1) := by decide +kernel
theorem dX10_comes_33 : decode cX10_comes 33 = .ok (.iastore, 1) := by decide +kernel
theorem dX10_comes_34 : decode cX10_comes 34 = .ok (.aload_n 0, 1) := by decide +kernel
theorem dX10_comes_35 : decode cX10_comes 35 = .ok (.getfield 20, 3) := by decide +kernel
theorem dX10_comes_38 : decode cX10_comes 38 = .ok (.iload_n 1, 1) := by decide +kernel
theorem dX10_comes_39 : decode cX10_comes 39 = .ok (.dup2, 1) := by decide +kernel
theorem dX10_comes_40 : decode cX10_comes 40 = .ok (.iaload, 1) := by decide +kernel
theorem dX10_comes_41 : decode cX10_comes 41 = .ok (.iconst 1, 1) := by decide +kernel
theorem dX10_comes_42 : decode cX10_comes 42 = .ok (.iadd, 1) := by decide +kernel
theorem dX10_comes_43 : decode cX10_comes 43 = .ok (.iastore, 1) := by decide +kernel
theorem dX10_comes_44 : decode cX10_comes 44 = .ok (.iload_n 1, 1) := by decide +kernel
theorem dX10_comes_45 : decode cX10_comes 45 = .ok (.ifCond .eq 16, 3) := by decide +kernel
theorem dX10_comes_48 : decode cX10_comes 48 = .ok (.aload_n 0, 1) := by decide +kernel
theorem dX10_comes_49 : decode cX10_comes 49 = .ok (.getfield 20, 3) := by decide +kernel
theorem dX10_comes_52 : decode cX10_comes 52 = .ok (.iconst 1, 1) := by decide +kernel
theorem dX10_comes_53 : decode cX10_comes 53 = .ok (.iaload, 1) := by decide +kernel
theorem dX10_comes_54 : decode cX10_comes 54 = .ok (.aload_n 0, 1) := by decide +kernel
theorem dX10_comes_55 : decode cX10_comes 55 = .ok (.getfield 23, 3) := by decide +kernel
theorem dX10_comes_58 : decode cX10_comes 58 = .ok (.if_icmp .gt 4, 3) := by decide +kernel
theorem dX10_comes_61 : decode cX10_comes 61 = .ok (.return_, 1) := by decide +kernel
theorem dX10_comes_62 : decode cX10_comes 62 = .ok (.aload_n 0, 1) := by decide +kernel
theorem dX10_comes_63 : decode cX10_comes 63 = .ok (.dup, 1) := by decide +kernel
theorem dX10_comes_64 : decode cX10_comes 64 = .ok (.getfield 96, 3) := by decide +kernel
theorem dX10_comes_67 : decode cX10_comes 67 = .ok (.iconst 1, 1) := by decide +kernel
theorem dX10_comes_68 : decode cX10_comes 68 = .ok (.iadd, 1) := by decide +kernel
theorem dX10_comes_69 : decode cX10_comes 69 = .ok (.putfield 96, 3) := by decide +kernel
theorem dX10_comes_72 : decode cX10_comes 72 = .ok (.aload_n 0, 1) := by decide +kernel
theorem dX10_comes_73 : decode cX10_comes 73 = .ok (.aload_n 0, 1) := by decide +kernel
theorem dX10_comes_74 : decode cX10_comes 74 = .ok (.getfield 13, 3) := by decide +kernel
theorem dX10_comes_77 : decode cX10_comes 77 = .ok (.bipush 101, 2) := by decide +kernel
theorem dX10_comes_79 : decode cX10_comes 79 = .ok (.iaload, 1) := by decide +kernel
theorem dX10_comes_80 : decode cX10_comes 80 = .ok (.putfield 26, 3) := by decide +kernel
theorem dX10_comes_83 : decode cX10_comes 83 = .ok (.aload_n 0, 1) := by decide +kernel
theorem dX10_comes_84 : decode cX10_comes 84 = .ok (.iconst 1, 1) := by decide +kernel
theorem dX10_comes_85 : decode cX10_comes 85 = .ok (.iconst 0, 1) := by decide +kernel
theorem dX10_comes_86 : decode cX10_comes 86 = .ok (.invokevirtual 99, 3) := by decide +kernel
theorem dX10_comes_89 : decode cX10_comes 89 = .ok (.pop, 1) := by decide +kernel
theorem dX10_comes_90 : decode cX10_comes 90 = .ok (.return_, 1) := by decide +kernel
theorem dX10_ends_0 : decode cX10_ends 0 = .ok (.aload_n 0, 1) := by decide +kernel
theorem dX10_ends_1 : decode cX10_ends 1 = .ok (.getfield 29, 3) := by decide +kernel
theorem dX10_ends_4 : decode cX10_ends 4 = .ok (.iload_n 1, 1) := by decide +kernel
theorem dX10_ends_5 : decode cX10_ends 5 = .ok (.iconst (-1), 1) := by decide +kernel
theorem dX10_ends_6 : decode cX10_ends 6 = .ok (.iastore, 1) := by decide +kernel
theorem dX10_ends_7 : decode cX10_ends 7 = .ok (.aload_n 0, 1) := by decide +kernel
theorem dX10_ends_8 : decode cX10_ends 8 = .ok (.getfield 32, 3) := by decide +kernel
theorem dX10_ends_11 : decode cX10_ends 11 = .ok (.iload_n 1, 1) := by decide +kernel
theorem dX10_ends_12 : decode cX10_ends 12 = .ok (.iconst 0, 1) := by decide +kernel
theorem dX10_ends_13 : decode cX10_ends 13 = .ok (.bastore, 1) := by decide +kernel
theorem dX10_ends_14 : decode cX10_ends 14 = .ok (.return_, 1) := by decide +kernel
theorem dX10_noPair_0 : decode cX10_noPair 0 = .ok (.aload_n 0, 1) := by decide +kernel
theorem dX10_noPair_1 : decode cX10_noPair 1 = .ok (.iload_n 1, 1) := by decide +kernel
theorem dX10_noPair_2 : decode cX10_noPair 2 = .ok (.iload_n 2, 1) := by decide +kernel
theorem dX10_noPair_3 : decode cX10_noPair 3 = .ok (.invokevirtual 103, 3) := by decide +kernel
theorem dX10_noPair_6 : decode cX10_noPair 6 = .ok (.ifCond .ne 19, 3) := by decide +kernel
theorem dX10_noPair_9 : decode cX10_noPair 9 = .ok (.aload_n 0, 1) := by decide +kernel
theorem dX10_noPair_10 : decode cX10_noPair 10 = .ok (.iload_n 3, 1) := by decide +kernel
theorem dX10_noPair_11 : decode cX10_noPair 11 = .ok (.iconst 0, 1) := by decide +kernel
theorem dX10_noPair_12 : decode cX10_noPair 12 = .ok (.sipush 999, 3) := by decide +kernel
theorem dX10_noPair_15 : decode cX10_noPair 15 = .ok (.invokestatic 84, 3) := by decide +kernel
theorem dX10_noPair_18 : decode cX10_noPair 18 = .ok (.iconst 1, 1) := by decide +kernel
theorem dX10_noPair_19 : decode cX10_noPair 19 = .ok (.invokevirtual 88, 3) := by decide +kernel
theorem dX10_noPair_22 : decode cX10_noPair 22 = .ok (.ifCond .eq 7, 3) := by decide +kernel
theorem dX10_noPair_25 : decode cX10_noPair 25 = .ok (.iconst 1, 1) := by decide +kernel
theorem dX10_noPair_26 : decode cX10_noPair 26 = .ok (.goto 4, 3) := by decide +kernel
theorem dX10_noPair_29 : decode cX10_noPair 29 = .ok (.iconst 0, 1) := by decide +kernel
theorem dX10_noPair_30 : decode cX10_noPair 30 = .ok (.ireturn, 1) := by decide +kernel
theorem dX10_put_0 : decode cX10_put 0 = .ok (.aload_n 0, 1) := by decide +kernel
theorem dX10_put_1 : decode cX10_put 1 = .ok (.iconst 0, 1) := by decide +kernel
theorem dX10_put_2 : decode cX10_put 2 = .ok (.putfield 1, 3) := by decide +kernel
theorem dX10_put_5 : decode cX10_put 5 = .ok (.aload_n 0, 1) := by decide +kernel
theorem dX10_put_6 : decode cX10_put 6 = .ok (.iload_n 1, 1) := by decide +kernel
theorem dX10_put_7 : decode cX10_put 7 = .ok (.iload_n 2, 1) := by decide +kernel
theorem dX10_put_8 : decode cX10_put 8 = .ok (.iload_n 3, 1) := by decide +kernel
theorem dX10_put_9 : decode cX10_put 9 = .ok (.invokevirtual 107, 3) := by decide +kernel
theorem dX10_put_12 : decode cX10_put 12 = .ok (.ifCond .eq 5, 3) := by decide +kernel
theorem dX10_put_15 : decode cX10_put 15 = .ok (.iconst 0, 1) := by decide +kernel
theorem dX10_put_16 : decode cX10_put 16 = .ok (.ireturn, 1) := by decide +kernel
theorem dX10_put_17 : decode cX10_put 17 = .ok (.aload_n 0, 1) := by decide +kernel
theorem dX10_put_18 : decode cX10_put 18 = .ok (.iload_n 1, 1) := by decide +kernel
theorem dX10_put_19 : decode cX10_put 19 = .ok (.invokevirtual 110, 3) := by decide +kernel
theorem dX10_put_22 : decode cX10_put 22 = .ok (.aload_n 0, 1) := by decide +kernel
theorem dX10_put_23 : decode cX10_put 23 = .ok (.iload_n 1, 1) := by decide +kernel
theorem dX10_put_24 : decode cX10_put 24 = .ok (.iload_n 2, 1) := by decide +kernel
theorem dX10_put_25 : decode cX10_put 25 = .ok (.invokevirtual 114, 3) := by decide +kernel
theorem dX10_put_28 : decode cX10_put 28 = .ok (.istore 4, 2) := by decide +kernel
theorem dX10_put_30 : decode cX10_put 30 = .ok (.iload 4, 2) := by decide +kernel
theorem dX10_put_32 : decode cX10_put 32 = .ok (.iconst (-1), 1) := by decide +kernel
theorem dX10_put_33 : decode cX10_put 33 = .ok (.if_icmp .ne 7, 3) := by decide +kernel
theorem dX10_put_36 : decode cX10_put 36 = .ok (.iconst (-1), 1) := by decide +kernel
theorem dX10_put_37 : decode cX10_put 37 = .ok (.goto 10, 3) := by decide +kernel
theorem dX10_put_40 : decode cX10_put 40 = .ok (.aload_n 0, 1) := by decide +kernel
theorem dX10_put_41 : decode cX10_put 41 = .ok (.iload_n 1, 1) := by decide +kernel
theorem dX10_put_42 : decode cX10_put 42 = .ok (.iload 4, 2) := by decide +kernel
theorem dX10_put_44 : decode cX10_put 44 = .ok (.invokevirtual 99, 3) := by decide +kernel
theorem dX10_put_47 : decode cX10_put 47 = .ok (.istore 5, 2) := by decide +kernel
theorem dX10_put_49 : decode cX10_put 49 = .ok (.aload_n 0, 1) := by decide +kernel
theorem dX10_put_50 : decode cX10_put 50 = .ok (.iload_n 1, 1) := by decide +kernel
theorem dX10_put_51 : decode cX10_put 51 = .ok (.iload_n 2, 1) := by decide +kernel
theorem dX10_put_52 : decode cX10_put 52 = .ok (.iload_n 3, 1) := by decide +kernel
theorem dX10_put_53 : decode cX10_put 53 = .ok (.invokevirtual 117, 3) := by decide +kernel
theorem dX10_put_56 : decode cX10_put 56 = .ok (.iload 5, 2) := by decide +kernel
theorem dX10_put_58 : decode cX10_put 58 = .ok (.ireturn, 1) := by decide +kernel
theorem dX10_uses_0 : decode cX10_uses 0 = .ok (.aload_n 0, 1) := by decide +kernel
theorem dX10_uses_1 : decode cX10_uses 1 = .ok (.iload_n 1, 1) := by decide +kernel
theorem dX10_uses_2 : decode cX10_uses 2 = .ok (.iload_n 2, 1) := by decide +kernel
theorem dX10_uses_3 : decode cX10_uses 3 = .ok (.invokevirtual 114, 3) := by decide +kernel
theorem dX10_uses_6 : decode cX10_uses 6 = .ok (.istore_n 3, 1) := by decide +kernel
theorem dX10_uses_7 : decode cX10_uses 7 = .ok (.iload_n 3, 1) := by decide +kernel
theorem dX10_uses_8 : decode cX10_uses 8 = .ok (.iconst (-1), 1) := by decide +kernel
theorem dX10_uses_9 : decode cX10_uses 9 = .ok (.if_icmp .ne 5, 3) := by decide +kernel
theorem dX10_uses_12 : decode cX10_uses 12 = .ok (.iconst (-1), 1) := by decide +kernel
theorem dX10_uses_13 : decode cX10_uses 13 = .ok (.ireturn, 1) := by decide +kernel
theorem dX10_uses_14 : decode cX10_uses 14 = .ok (.aload_n 0, 1) := by decide +kernel
theorem dX10_uses_15 : decode cX10_uses 15 = .ok (.iload_n 1, 1) := by decide +kernel
theorem dX10_uses_16 : decode cX10_uses 16 = .ok (.iload_n 3, 1) := by decide +kernel
theorem dX10_uses_17 : decode cX10_uses 17 = .ok (.invokevirtual 99, 3) := by decide +kernel
theorem dX10_uses_20 : decode cX10_uses 20 = .ok (.istore 4, 2) := by decide +kernel
theorem dX10_uses_22 : decode cX10_uses 22 = .ok (.aload_n 0, 1) := by decide +kernel
theorem dX10_uses_23 : decode cX10_uses 23 = .ok (.iload_n 1, 1) := by decide +kernel
theorem dX10_uses_24 : decode cX10_uses 24 = .ok (.iload_n 2, 1) := by decide +kernel
theorem dX10_uses_25 : decode cX10_uses 25 = .ok (.iload 4, 2) := by decide +kernel
theorem dX10_uses_27 : decode cX10_uses 27 = .ok (.invokevirtual 117, 3) := by decide +kernel
theorem dX10_uses_30 : decode cX10_uses 30 = .ok (.iload 4, 2) := by decide +kernel
theorem dX10_uses_32 : decode cX10_uses 32 = .ok (.ireturn, 1) := by decide +kernel
theorem dX10_putIfAbsent_0 : decode cX10_putIfAbsent 0 = .ok (.aload_n 0, 1) := by decide +kernel
theorem dX10_putIfAbsent_1 : decode cX10_putIfAbsent 1 = .ok (.iconst 0, 1) := by decide +kernel
theorem dX10_putIfAbsent_2 : decode cX10_putIfAbsent 2 = .ok (.putfield 1, 3) := by decide +kernel
theorem dX10_putIfAbsent_5 : decode cX10_putIfAbsent 5 = .ok (.aload_n 0, 1) := by decide +kernel
theorem dX10_putIfAbsent_6 : decode cX10_putIfAbsent 6 = .ok (.iload_n 1, 1) := by decide +kernel
theorem dX10_putIfAbsent_7 : decode cX10_putIfAbsent 7 = .ok (.iload_n 2, 1) := by decide +kernel
theorem dX10_putIfAbsent_8 : decode cX10_putIfAbsent 8 = .ok (.iload_n 3, 1) := by decide +kernel
theorem dX10_putIfAbsent_9 : decode cX10_putIfAbsent 9 = .ok (.invokevirtual 107, 3) := by decide +kernel
theorem dX10_putIfAbsent_12 : decode cX10_putIfAbsent 12 = .ok (.ifCond .eq 5, 3) := by decide +kernel
theorem dX10_putIfAbsent_15 : decode cX10_putIfAbsent 15 = .ok (.iconst 0, 1) := by decide +kernel
theorem dX10_putIfAbsent_16 : decode cX10_putIfAbsent 16 = .ok (.ireturn, 1) := by decide +kernel
theorem dX10_putIfAbsent_17 : decode cX10_putIfAbsent 17 = .ok (.aload_n 0, 1) := by decide +kernel
theorem dX10_putIfAbsent_18 : decode cX10_putIfAbsent 18 = .ok (.iload_n 1, 1) := by decide +kernel
theorem dX10_putIfAbsent_19 : decode cX10_putIfAbsent 19 = .ok (.invokevirtual 110, 3) := by decide +kernel
theorem dX10_putIfAbsent_22 : decode cX10_putIfAbsent 22 = .ok (.aload_n 0, 1) := by decide +kernel
theorem dX10_putIfAbsent_23 : decode cX10_putIfAbsent 23 = .ok (.iload_n 1, 1) := by decide +kernel
theorem dX10_putIfAbsent_24 : decode cX10_putIfAbsent 24 = .ok (.iload_n 2, 1) := by decide +kernel
theorem dX10_putIfAbsent_25 : decode cX10_putIfAbsent 25 = .ok (.invokevirtual 121, 3) := by decide +kernel
theorem dX10_putIfAbsent_28 : decode cX10_putIfAbsent 28 = .ok (.istore 4, 2) := by decide +kernel
theorem dX10_putIfAbsent_30 : decode cX10_putIfAbsent 30 = .ok (.iload 4, 2) := by decide +kernel
theorem dX10_putIfAbsent_32 : decode cX10_putIfAbsent 32 = .ok (.iconst (-1), 1) := by decide +kernel
theorem dX10_putIfAbsent_33 : decode cX10_putIfAbsent 33 = .ok (.if_icmp .ne 10, 3) := by decide +kernel
theorem dX10_putIfAbsent_36 : decode cX10_putIfAbsent 36 = .ok (.aload_n 0, 1) := by decide +kernel
theorem dX10_putIfAbsent_37 : decode cX10_putIfAbsent 37 = .ok (.iload_n 1, 1) := by decide +kernel
theorem dX10_putIfAbsent_38 : decode cX10_putIfAbsent 38 = .ok (.iload_n 2, 1) := by decide +kernel
theorem dX10_putIfAbsent_39 : decode cX10_putIfAbsent 39 = .ok (.iload_n 3, 1) := by decide +kernel
theorem dX10_putIfAbsent_40 : decode cX10_putIfAbsent 40 = .ok (.invokevirtual 117, 3) := by decide +kernel
theorem dX10_putIfAbsent_43 : decode cX10_putIfAbsent 43 = .ok (.iload 4, 2) := by decide +kernel
theorem dX10_putIfAbsent_45 : decode cX10_putIfAbsent 45 = .ok (.ireturn, 1) := by decide +kernel
theorem dX10_get_0 : decode cX10_get 0 = .ok (.aload_n 0, 1) := by decide +kernel
theorem dX10_get_1 : decode cX10_get 1 = .ok (.iconst 0, 1) := by decide +kernel
theorem dX10_get_2 : decode cX10_get 2 = .ok (.putfield 1, 3) := by decide +kernel
theorem dX10_get_5 : decode cX10_get 5 = .ok (.aload_n 0, 1) := by decide +kernel
theorem dX10_get_6 : decode cX10_get 6 = .ok (.iload_n 1, 1) := by decide +kernel
theorem dX10_get_7 : decode cX10_get 7 = .ok (.iload_n 2, 1) := by decide +kernel
theorem dX10_get_8 : decode cX10_get 8 = .ok (.invokevirtual 103, 3) := by decide +kernel
theorem dX10_get_11 : decode cX10_get 11 = .ok (.ifCond .eq 5, 3) := by decide +kernel
theorem dX10_get_14 : decode cX10_get 14 = .ok (.iconst 0, 1) := by decide +kernel
theorem dX10_get_15 : decode cX10_get 15 = .ok (.ireturn, 1) := by decide +kernel
theorem dX10_get_16 : decode cX10_get 16 = .ok (.aload_n 0, 1) := by decide +kernel
theorem dX10_get_17 : decode cX10_get 17 = .ok (.iload_n 1, 1) := by decide +kernel
theorem dX10_get_18 : decode cX10_get 18 = .ok (.invokevirtual 110, 3) := by decide +kernel
theorem dX10_get_21 : decode cX10_get 21 = .ok (.aload_n 0, 1) := by decide +kernel
theorem dX10_get_22 : decode cX10_get 22 = .ok (.iload_n 1, 1) := by decide +kernel
theorem dX10_get_23 : decode cX10_get 23 = .ok (.iload_n 2, 1) := by decide +kernel
theorem dX10_get_24 : decode cX10_get 24 = .ok (.invokevirtual 121, 3) := by decide +kernel
theorem dX10_get_27 : decode cX10_get 27 = .ok (.ireturn, 1) := by decide +kernel
theorem dX10_getOrDefault_0 : decode cX10_getOrDefault 0 = .ok (.aload_n 0, 1) := by decide +kernel
theorem dX10_getOrDefault_1 : decode cX10_getOrDefault 1 = .ok (.iconst 0, 1) := by decide +kernel
theorem dX10_getOrDefault_2 : decode cX10_getOrDefault 2 = .ok (.putfield 1, 3) := by decide +kernel
theorem dX10_getOrDefault_5 : decode cX10_getOrDefault 5 = .ok (.aload_n 0, 1) := by decide +kernel
theorem dX10_getOrDefault_6 : decode cX10_getOrDefault 6 = .ok (.iload_n 1, 1) := by decide +kernel
theorem dX10_getOrDefault_7 : decode cX10_getOrDefault 7 = .ok (.iload_n 2, 1) := by decide +kernel
theorem dX10_getOrDefault_8 : decode cX10_getOrDefault 8 = .ok (.invokevirtual 103, 3) := by decide +kernel
theorem dX10_getOrDefault_11 : decode cX10_getOrDefault 11 = .ok (.ifCond .eq 5, 3) := by decide +kernel
theorem dX10_getOrDefault_14 : decode cX10_getOrDefault 14 = .ok (.iconst 0, 1) := by decide +kernel
theorem dX10_getOrDefault_15 : decode cX10_getOrDefault 15 = .ok (.ireturn, 1) := by decide +kernel
theorem dX10_getOrDefault_16 : decode cX10_getOrDefault 16 = .ok (.aload_n 0, 1) := by decide +kernel
theorem dX10_getOrDefault_17 : decode cX10_getOrDefault 17 = .ok (.iload_n 1, 1) := by decide +kernel
theorem dX10_getOrDefault_18 : decode cX10_getOrDefault 18 = .ok (.invokevirtual 110, 3) := by decide +kernel
theorem dX10_getOrDefault_21 : decode cX10_getOrDefault 21 = .ok (.aload_n 0, 1) := by decide +kernel
theorem dX10_getOrDefault_22 : decode cX10_getOrDefault 22 = .ok (.iload_n 1, 1) := by decide +kernel
theorem dX10_getOrDefault_23 : decode cX10_getOrDefault 23 = .ok (.iload_n 2, 1) := by decide +kernel
theorem dX10_getOrDefault_24 : decode cX10_getOrDefault 24 = .ok (.invokevirtual 121, 3) := by decide +kernel
theorem dX10_getOrDefault_27 : decode cX10_getOrDefault 27 = .ok (.istore 4, 2) := by decide +kernel
theorem dX10_getOrDefault_29 : decode cX10_getOrDefault 29 = .ok (.iload 4, 2) := by decide +kernel
theorem dX10_getOrDefault_31 : decode cX10_getOrDefault 31 = .ok (.iconst (-1), 1) := by decide +kernel
theorem dX10_getOrDefault_32 : decode cX10_getOrDefault 32 = .ok (.if_icmp .ne 7, 3) := by decide +kernel
theorem dX10_getOrDefault_35 : decode cX10_getOrDefault 35 = .ok (.iload_n 3, 1) := by decide +kernel
theorem dX10_getOrDefault_36 : decode cX10_getOrDefault 36 = .ok (.goto 5, 3) := by decide +kernel
theorem dX10_getOrDefault_39 : decode cX10_getOrDefault 39 = .ok (.iload 4, 2) := by decide +kernel
theorem dX10_getOrDefault_41 : decode cX10_getOrDefault 41 = .ok (.ireturn, 1) := by decide +kernel
theorem dX10_remove_0 : decode cX10_remove 0 = .ok (.aload_n 0, 1) := by decide +kernel
theorem dX10_remove_1 : decode cX10_remove 1 = .ok (.iconst 0, 1) := by decide +kernel
theorem dX10_remove_2 : decode cX10_remove 2 = .ok (.putfield 1, 3) := by decide +kernel
theorem dX10_remove_5 : decode cX10_remove 5 = .ok (.aload_n 0, 1) := by decide +kernel
theorem dX10_remove_6 : decode cX10_remove 6 = .ok (.iload_n 1, 1) := by decide +kernel
theorem dX10_remove_7 : decode cX10_remove 7 = .ok (.iload_n 2, 1) := by decide +kernel
theorem dX10_remove_8 : decode cX10_remove 8 = .ok (.invokevirtual 103, 3) := by decide +kernel
theorem dX10_remove_11 : decode cX10_remove 11 = .ok (.ifCond .eq 5, 3) := by decide +kernel
theorem dX10_remove_14 : decode cX10_remove 14 = .ok (.iconst 0, 1) := by decide +kernel
theorem dX10_remove_15 : decode cX10_remove 15 = .ok (.ireturn, 1) := by decide +kernel
theorem dX10_remove_16 : decode cX10_remove 16 = .ok (.aload_n 0, 1) := by decide +kernel
theorem dX10_remove_17 : decode cX10_remove 17 = .ok (.iload_n 1, 1) := by decide +kernel
theorem dX10_remove_18 : decode cX10_remove 18 = .ok (.invokevirtual 110, 3) := by decide +kernel
theorem dX10_remove_21 : decode cX10_remove 21 = .ok (.aload_n 0, 1) := by decide +kernel
theorem dX10_remove_22 : decode cX10_remove 22 = .ok (.iload_n 1, 1) := by decide +kernel
theorem dX10_remove_23 : decode cX10_remove 23 = .ok (.iload_n 2, 1) := by decide +kernel
theorem dX10_remove_24 : decode cX10_remove 24 = .ok (.invokevirtual 114, 3) := by decide +kernel
theorem dX10_remove_27 : decode cX10_remove 27 = .ok (.istore_n 3, 1) := by decide +kernel
theorem dX10_remove_28 : decode cX10_remove 28 = .ok (.iload_n 3, 1) := by decide +kernel
theorem dX10_remove_29 : decode cX10_remove 29 = .ok (.iconst (-1), 1) := by decide +kernel
theorem dX10_remove_30 : decode cX10_remove 30 = .ok (.if_icmp .ne 7, 3) := by decide +kernel
theorem dX10_remove_33 : decode cX10_remove 33 = .ok (.iconst (-1), 1) := by decide +kernel
theorem dX10_remove_34 : decode cX10_remove 34 = .ok (.goto 9, 3) := by decide +kernel
theorem dX10_remove_37 : decode cX10_remove 37 = .ok (.aload_n 0, 1) := by decide +kernel
theorem dX10_remove_38 : decode cX10_remove 38 = .ok (.iload_n 1, 1) := by decide +kernel
theorem dX10_remove_39 : decode cX10_remove 39 = .ok (.iload_n 3, 1) := by decide +kernel
theorem dX10_remove_40 : decode cX10_remove 40 = .ok (.invokevirtual 99, 3) := by decide +kernel
theorem dX10_remove_43 : decode cX10_remove 43 = .ok (.ireturn, 1) := by decide +kernel
theorem dX10_clear_0 : decode cX10_clear 0 = .ok (.aload_n 0, 1) := by decide +kernel
theorem dX10_clear_1 : decode cX10_clear 1 = .ok (.iconst 0, 1) := by decide +kernel
theorem dX10_clear_2 : decode cX10_clear 2 = .ok (.putfield 1, 3) := by decide +kernel
theorem dX10_clear_5 : decode cX10_clear 5 = .ok (.aload_n 0, 1) := by decide +kernel
theorem dX10_clear_6 : decode cX10_clear 6 = .ok (.iload_n 1, 1) := by decide +kernel
theorem dX10_clear_7 : decode cX10_clear 7 = .ok (.invokevirtual 92, 3) := by decide +kernel
theorem dX10_clear_10 : decode cX10_clear 10 = .ok (.ifCond .eq 5, 3) := by decide +kernel
theorem dX10_clear_13 : decode cX10_clear 13 = .ok (.iconst 0, 1) := by decide +kernel
theorem dX10_clear_14 : decode cX10_clear 14 = .ok (.ireturn, 1) := by decide +kernel
theorem dX10_clear_15 : decode cX10_clear 15 = .ok (.aload_n 0, 1) := by decide +kernel
theorem dX10_clear_16 : decode cX10_clear 16 = .ok (.iload_n 1, 1) := by decide +kernel
theorem dX10_clear_17 : decode cX10_clear 17 = .ok (.invokevirtual 110, 3) := by decide +kernel
theorem dX10_clear_20 : decode cX10_clear 20 = .ok (.aload_n 0, 1) := by decide +kernel
theorem dX10_clear_21 : decode cX10_clear 21 = .ok (.getfield 20, 3) := by decide +kernel
theorem dX10_clear_24 : decode cX10_clear 24 = .ok (.iload_n 1, 1) := by decide +kernel
theorem dX10_clear_25 : decode cX10_clear 25 = .ok (.iaload, 1) := by decide +kernel
theorem dX10_clear_26 : decode cX10_clear 26 = .ok (.istore_n 2, 1) := by decide +kernel
theorem dX10_clear_27 : decode cX10_clear 27 = .ok (.aload_n 0, 1) := by decide +kernel
theorem dX10_clear_28 : decode cX10_clear 28 = .ok (.getfield 20, 3) := by decide +kernel
theorem dX10_clear_31 : decode cX10_clear 31 = .ok (.iload_n 1, 1) := by decide +kernel
theorem dX10_clear_32 : decode cX10_clear 32 = .ok (.iconst 0, 1) := by decide +kernel
theorem dX10_clear_33 : decode cX10_clear 33 = .ok (.iastore, 1) := by decide +kernel
theorem dX10_clear_34 : decode cX10_clear 34 = .ok (.iload_n 2, 1) := by decide +kernel
theorem dX10_clear_35 : decode cX10_clear 35 = .ok (.ireturn, 1) := by decide +kernel
theorem dX10_setBound_0 : decode cX10_setBound 0 = .ok (.aload_n 0, 1) := by decide +kernel
theorem dX10_setBound_1 : decode cX10_setBound 1 = .ok (.iconst 0, 1) := by decide +kernel
theorem dX10_setBound_2 : decode cX10_setBound 2 = .ok (.putfield 1, 3) := by decide +kernel
theorem dX10_setBound_5 : decode cX10_setBound 5 = .ok (.aload_n 0, 1) := by decide +kernel
theorem dX10_setBound_6 : decode cX10_setBound 6 = .ok (.iload_n 1, 1) := by decide +kernel
theorem dX10_setBound_7 : decode cX10_setBound 7 = .ok (.iconst 1, 1) := by decide +kernel
theorem dX10_setBound_8 : decode cX10_setBound 8 = .ok (.bipush 20, 2) := by decide +kernel
theorem dX10_setBound_10 : decode cX10_setBound 10 = .ok (.invokestatic 84, 3) := by decide +kernel
theorem dX10_setBound_13 : decode cX10_setBound 13 = .ok (.iconst 1, 1) := by decide +kernel
theorem dX10_setBound_14 : decode cX10_setBound 14 = .ok (.invokevirtual 88, 3) := by decide +kernel
theorem dX10_setBound_17 : decode cX10_setBound 17 = .ok (.ifCond .eq 5, 3) := by decide +kernel
theorem dX10_setBound_20 : decode cX10_setBound 20 = .ok (.iconst 0, 1) := by decide +kernel
theorem dX10_setBound_21 : decode cX10_setBound 21 = .ok (.ireturn, 1) := by decide +kernel
theorem dX10_setBound_22 : decode cX10_setBound 22 = .ok (.aload_n 0, 1) := by decide +kernel
theorem dX10_setBound_23 : decode cX10_setBound 23 = .ok (.iconst 1, 1) := by decide +kernel
theorem dX10_setBound_24 : decode cX10_setBound 24 = .ok (.invokevirtual 110, 3) := by decide +kernel
theorem dX10_setBound_27 : decode cX10_setBound 27 = .ok (.aload_n 0, 1) := by decide +kernel
theorem dX10_setBound_28 : decode cX10_setBound 28 = .ok (.getfield 20, 3) := by decide +kernel
theorem dX10_setBound_31 : decode cX10_setBound 31 = .ok (.iconst 1, 1) := by decide +kernel
theorem dX10_setBound_32 : decode cX10_setBound 32 = .ok (.iconst 0, 1) := by decide +kernel
theorem dX10_setBound_33 : decode cX10_setBound 33 = .ok (.iastore, 1) := by decide +kernel
theorem dX10_setBound_34 : decode cX10_setBound 34 = .ok (.aload_n 0, 1) := by decide +kernel
theorem dX10_setBound_35 : decode cX10_setBound 35 = .ok (.getfield 23, 3) := by decide +kernel
theorem dX10_setBound_38 : decode cX10_setBound 38 = .ok (.istore_n 2, 1) := by decide +kernel
theorem dX10_setBound_39 : decode cX10_setBound 39 = .ok (.aload_n 0, 1) := by decide +kernel
theorem dX10_setBound_40 : decode cX10_setBound 40 = .ok (.iload_n 1, 1) := by decide +kernel
theorem dX10_setBound_41 : decode cX10_setBound 41 = .ok (.putfield 23, 3) := by decide +kernel
theorem dX10_setBound_44 : decode cX10_setBound 44 = .ok (.iload_n 2, 1) := by decide +kernel
theorem dX10_setBound_45 : decode cX10_setBound 45 = .ok (.ireturn, 1) := by decide +kernel
theorem dX10_hasKey_0 : decode cX10_hasKey 0 = .ok (.aload_n 0, 1) := by decide +kernel
theorem dX10_hasKey_1 : decode cX10_hasKey 1 = .ok (.iconst 0, 1) := by decide +kernel
theorem dX10_hasKey_2 : decode cX10_hasKey 2 = .ok (.putfield 1, 3) := by decide +kernel
theorem dX10_hasKey_5 : decode cX10_hasKey 5 = .ok (.aload_n 0, 1) := by decide +kernel
theorem dX10_hasKey_6 : decode cX10_hasKey 6 = .ok (.iload_n 1, 1) := by decide +kernel
theorem dX10_hasKey_7 : decode cX10_hasKey 7 = .ok (.iload_n 2, 1) := by decide +kernel
theorem dX10_hasKey_8 : decode cX10_hasKey 8 = .ok (.invokevirtual 103, 3) := by decide +kernel
theorem dX10_hasKey_11 : decode cX10_hasKey 11 = .ok (.ifCond .ne 17, 3) := by decide +kernel
theorem dX10_hasKey_14 : decode cX10_hasKey 14 = .ok (.aload_n 0, 1) := by decide +kernel
theorem dX10_hasKey_15 : decode cX10_hasKey 15 = .ok (.iload_n 1, 1) := by decide +kernel
theorem dX10_hasKey_16 : decode cX10_hasKey 16 = .ok (.iload_n 2, 1) := by decide +kernel
theorem dX10_hasKey_17 : decode cX10_hasKey 17 = .ok (.invokevirtual 114, 3) := by decide +kernel
theorem dX10_hasKey_20 : decode cX10_hasKey 20 = .ok (.iconst (-1), 1) := by decide +kernel
theorem dX10_hasKey_21 : decode cX10_hasKey 21 = .ok (.if_icmp .eq 7, 3) := by decide +kernel
theorem dX10_hasKey_24 : decode cX10_hasKey 24 = .ok (.iconst 1, 1) := by decide +kernel
theorem dX10_hasKey_25 : decode cX10_hasKey 25 = .ok (.goto 4, 3) := by decide +kernel
theorem dX10_hasKey_28 : decode cX10_hasKey 28 = .ok (.iconst 0, 1) := by decide +kernel
theorem dX10_hasKey_29 : decode cX10_hasKey 29 = .ok (.ireturn, 1) := by decide +kernel
theorem dX10_hasValue_0 : decode cX10_hasValue 0 = .ok (.aload_n 0, 1) := by decide +kernel
theorem dX10_hasValue_1 : decode cX10_hasValue 1 = .ok (.iconst 0, 1) := by decide +kernel
theorem dX10_hasValue_2 : decode cX10_hasValue 2 = .ok (.putfield 1, 3) := by decide +kernel
theorem dX10_hasValue_5 : decode cX10_hasValue 5 = .ok (.aload_n 0, 1) := by decide +kernel
theorem dX10_hasValue_6 : decode cX10_hasValue 6 = .ok (.iload_n 1, 1) := by decide +kernel
theorem dX10_hasValue_7 : decode cX10_hasValue 7 = .ok (.invokevirtual 92, 3) := by decide +kernel
theorem dX10_hasValue_10 : decode cX10_hasValue 10 = .ok (.ifCond .ne 19, 3) := by decide +kernel
theorem dX10_hasValue_13 : decode cX10_hasValue 13 = .ok (.aload_n 0, 1) := by decide +kernel
theorem dX10_hasValue_14 : decode cX10_hasValue 14 = .ok (.iload_n 2, 1) := by decide +kernel
theorem dX10_hasValue_15 : decode cX10_hasValue 15 = .ok (.iconst 0, 1) := by decide +kernel
theorem dX10_hasValue_16 : decode cX10_hasValue 16 = .ok (.sipush 999, 3) := by decide +kernel
theorem dX10_hasValue_19 : decode cX10_hasValue 19 = .ok (.invokestatic 84, 3) := by decide +kernel
theorem dX10_hasValue_22 : decode cX10_hasValue 22 = .ok (.iconst 1, 1) := by decide +kernel
theorem dX10_hasValue_23 : decode cX10_hasValue 23 = .ok (.invokevirtual 88, 3) := by decide +kernel
theorem dX10_hasValue_26 : decode cX10_hasValue 26 = .ok (.ifCond .eq 5, 3) := by decide +kernel
theorem dX10_hasValue_29 : decode cX10_hasValue 29 = .ok (.iconst 0, 1) := by decide +kernel
theorem dX10_hasValue_30 : decode cX10_hasValue 30 = .ok (.ireturn, 1) := by decide +kernel
theorem dX10_hasValue_31 : decode cX10_hasValue 31 = .ok (.iconst 0, 1) := by decide +kernel
theorem dX10_hasValue_32 : decode cX10_hasValue 32 = .ok (.istore_n 3, 1) := by decide +kernel
theorem dX10_hasValue_33 : decode cX10_hasValue 33 = .ok (.iload_n 3, 1) := by decide +kernel
theorem dX10_hasValue_34 : decode cX10_hasValue 34 = .ok (.aload_n 0, 1) := by decide +kernel
theorem dX10_hasValue_35 : decode cX10_hasValue 35 = .ok (.getfield 20, 3) := by decide +kernel
theorem dX10_hasValue_38 : decode cX10_hasValue 38 = .ok (.iload_n 1, 1) := by decide +kernel
theorem dX10_hasValue_39 : decode cX10_hasValue 39 = .ok (.iaload, 1) := by decide +kernel
theorem dX10_hasValue_40 : decode cX10_hasValue 40 = .ok (.if_icmp .ge 26, 3) := by decide +kernel
theorem dX10_hasValue_43 : decode cX10_hasValue 43 = .ok (.aload_n 0, 1) := by decide +kernel
theorem dX10_hasValue_44 : decode cX10_hasValue 44 = .ok (.getfield 17, 3) := by decide +kernel
theorem dX10_hasValue_47 : decode cX10_hasValue 47 = .ok (.bipush 101, 2) := by decide +kernel
theorem dX10_hasValue_49 : decode cX10_hasValue 49 = .ok (.iload_n 1, 1) := by decide +kernel
theorem dX10_hasValue_50 : decode cX10_hasValue 50 = .ok (.imul, 1) := by decide +kernel
theorem dX10_hasValue_51 : decode cX10_hasValue 51 = .ok (.iload_n 3, 1) := by decide +kernel
theorem dX10_hasValue_52 : decode cX10_hasValue 52 = .ok (.iadd, 1) := by decide +kernel
theorem dX10_hasValue_53 : decode cX10_hasValue 53 = .ok (.iaload, 1) := by decide +kernel
theorem dX10_hasValue_54 : decode cX10_hasValue 54 = .ok (.iload_n 2, 1) := by decide +kernel
theorem dX10_hasValue_55 : decode cX10_hasValue 55 = .ok (.if_icmp .ne 5, 3) := by decide +kernel
theorem dX10_hasValue_58 : decode cX10_hasValue 58 = .ok (.iconst 1, 1) := by decide +kernel
theorem dX10_hasValue_59 : decode cX10_hasValue 59 = .ok (.ireturn, 1) := by decide +kernel
theorem dX10_hasValue_60 : decode cX10_hasValue 60 = .ok (.iinc 3 1, 3) := by decide +kernel
theorem dX10_hasValue_63 : decode cX10_hasValue 63 = .ok (.goto (-30), 3) := by decide +kernel
theorem dX10_hasValue_66 : decode cX10_hasValue 66 = .ok (.iconst 0, 1) := by decide +kernel
theorem dX10_hasValue_67 : decode cX10_hasValue 67 = .ok (.ireturn, 1) := by decide +kernel
theorem dX10_size_0 : decode cX10_size 0 = .ok (.aload_n 0, 1) := by decide +kernel
theorem dX10_size_1 : decode cX10_size 1 = .ok (.iconst 0, 1) := by decide +kernel
theorem dX10_size_2 : decode cX10_size 2 = .ok (.putfield 1, 3) := by decide +kernel
theorem dX10_size_5 : decode cX10_size 5 = .ok (.aload_n 0, 1) := by decide +kernel
theorem dX10_size_6 : decode cX10_size 6 = .ok (.iload_n 1, 1) := by decide +kernel
theorem dX10_size_7 : decode cX10_size 7 = .ok (.invokevirtual 92, 3) := by decide +kernel
theorem dX10_size_10 : decode cX10_size 10 = .ok (.ifCond .eq 7, 3) := by decide +kernel
theorem dX10_size_13 : decode cX10_size 13 = .ok (.iconst 0, 1) := by decide +kernel
theorem dX10_size_14 : decode cX10_size 14 = .ok (.goto 9, 3) := by decide +kernel
theorem dX10_size_17 : decode cX10_size 17 = .ok (.aload_n 0, 1) := by decide +kernel
theorem dX10_size_18 : decode cX10_size 18 = .ok (.getfield 20, 3) := by decide +kernel
theorem dX10_size_21 : decode cX10_size 21 = .ok (.iload_n 1, 1) := by decide +kernel
theorem dX10_size_22 : decode cX10_size 22 = .ok (.iaload, 1) := by decide +kernel
theorem dX10_size_23 : decode cX10_size 23 = .ok (.ireturn, 1) := by decide +kernel
theorem dX10_noPlace_0 : decode cX10_noPlace 0 = .ok (.aload_n 0, 1) := by decide +kernel
theorem dX10_noPlace_1 : decode cX10_noPlace 1 = .ok (.iload_n 1, 1) := by decide +kernel
theorem dX10_noPlace_2 : decode cX10_noPlace 2 = .ok (.invokevirtual 92, 3) := by decide +kernel
theorem dX10_noPlace_5 : decode cX10_noPlace 5 = .ok (.ifCond .ne 24, 3) := by decide +kernel
theorem dX10_noPlace_8 : decode cX10_noPlace 8 = .ok (.aload_n 0, 1) := by decide +kernel
theorem dX10_noPlace_9 : decode cX10_noPlace 9 = .ok (.iload_n 2, 1) := by decide +kernel
theorem dX10_noPlace_10 : decode cX10_noPlace 10 = .ok (.iconst 0, 1) := by decide +kernel
theorem dX10_noPlace_11 : decode cX10_noPlace 11 = .ok (.aload_n 0, 1) := by decide +kernel
theorem dX10_noPlace_12 : decode cX10_noPlace 12 = .ok (.getfield 20, 3) := by decide +kernel
theorem dX10_noPlace_15 : decode cX10_noPlace 15 = .ok (.iload_n 1, 1) := by decide +kernel
theorem dX10_noPlace_16 : decode cX10_noPlace 16 = .ok (.iaload, 1) := by decide +kernel
theorem dX10_noPlace_17 : decode cX10_noPlace 17 = .ok (.iconst 1, 1) := by decide +kernel
theorem dX10_noPlace_18 : decode cX10_noPlace 18 = .ok (.isub, 1) := by decide +kernel
theorem dX10_noPlace_19 : decode cX10_noPlace 19 = .ok (.invokestatic 84, 3) := by decide +kernel
theorem dX10_noPlace_22 : decode cX10_noPlace 22 = .ok (.iconst 2, 1) := by decide +kernel
theorem dX10_noPlace_23 : decode cX10_noPlace 23 = .ok (.invokevirtual 88, 3) := by decide +kernel
theorem dX10_noPlace_26 : decode cX10_noPlace 26 = .ok (.ifCond .eq 7, 3) := by decide +kernel
theorem dX10_noPlace_29 : decode cX10_noPlace 29 = .ok (.iconst 1, 1) := by decide +kernel
theorem dX10_noPlace_30 : decode cX10_noPlace 30 = .ok (.goto 4, 3) := by decide +kernel
theorem dX10_noPlace_33 : decode cX10_noPlace 33 = .ok (.iconst 0, 1) := by decide +kernel
theorem dX10_noPlace_34 : decode cX10_noPlace 34 = .ok (.ireturn, 1) := by decide +kernel
theorem dX10_keyAt_0 : decode cX10_keyAt 0 = .ok (.aload_n 0, 1) := by decide +kernel
theorem dX10_keyAt_1 : decode cX10_keyAt 1 = .ok (.iconst 0, 1) := by decide +kernel
theorem dX10_keyAt_2 : decode cX10_keyAt 2 = .ok (.putfield 1, 3) := by decide +kernel
theorem dX10_keyAt_5 : decode cX10_keyAt 5 = .ok (.aload_n 0, 1) := by decide +kernel
theorem dX10_keyAt_6 : decode cX10_keyAt 6 = .ok (.iload_n 1, 1) := by decide +kernel
theorem dX10_keyAt_7 : decode cX10_keyAt 7 = .ok (.iload_n 2, 1) := by decide +kernel
theorem dX10_keyAt_8 : decode cX10_keyAt 8 = .ok (.invokevirtual 124, 3) := by decide +kernel
theorem dX10_keyAt_11 : decode cX10_keyAt 11 = .ok (.ifCond .eq 7, 3) := by decide +kernel
theorem dX10_keyAt_14 : decode cX10_keyAt 14 = .ok (.iconst 0, 1) := by decide +kernel
theorem dX10_keyAt_15 : decode cX10_keyAt 15 = .ok (.goto 14, 3) := by decide +kernel
theorem dX10_keyAt_18 : decode cX10_keyAt 18 = .ok (.aload_n 0, 1) := by decide +kernel
theorem dX10_keyAt_19 : decode cX10_keyAt 19 = .ok (.getfield 13, 3) := by decide +kernel
theorem dX10_keyAt_22 : decode cX10_keyAt 22 = .ok (.bipush 101, 2) := by decide +kernel
theorem dX10_keyAt_24 : decode cX10_keyAt 24 = .ok (.iload_n 1, 1) := by decide +kernel
theorem dX10_keyAt_25 : decode cX10_keyAt 25 = .ok (.imul, 1) := by decide +kernel
theorem dX10_keyAt_26 : decode cX10_keyAt 26 = .ok (.iload_n 2, 1) := by decide +kernel
theorem dX10_keyAt_27 : decode cX10_keyAt 27 = .ok (.iadd, 1) := by decide +kernel
theorem dX10_keyAt_28 : decode cX10_keyAt 28 = .ok (.iaload, 1) := by decide +kernel
theorem dX10_keyAt_29 : decode cX10_keyAt 29 = .ok (.ireturn, 1) := by decide +kernel
theorem dX10_valueAt_0 : decode cX10_valueAt 0 = .ok (.aload_n 0, 1) := by decide +kernel
theorem dX10_valueAt_1 : decode cX10_valueAt 1 = .ok (.iconst 0, 1) := by decide +kernel
theorem dX10_valueAt_2 : decode cX10_valueAt 2 = .ok (.putfield 1, 3) := by decide +kernel
theorem dX10_valueAt_5 : decode cX10_valueAt 5 = .ok (.aload_n 0, 1) := by decide +kernel
theorem dX10_valueAt_6 : decode cX10_valueAt 6 = .ok (.iload_n 1, 1) := by decide +kernel
theorem dX10_valueAt_7 : decode cX10_valueAt 7 = .ok (.iload_n 2, 1) := by decide +kernel
theorem dX10_valueAt_8 : decode cX10_valueAt 8 = .ok (.invokevirtual 124, 3) := by decide +kernel
theorem dX10_valueAt_11 : decode cX10_valueAt 11 = .ok (.ifCond .eq 7, 3) := by decide +kernel
theorem dX10_valueAt_14 : decode cX10_valueAt 14 = .ok (.iconst 0, 1) := by decide +kernel
theorem dX10_valueAt_15 : decode cX10_valueAt 15 = .ok (.goto 14, 3) := by decide +kernel
theorem dX10_valueAt_18 : decode cX10_valueAt 18 = .ok (.aload_n 0, 1) := by decide +kernel
theorem dX10_valueAt_19 : decode cX10_valueAt 19 = .ok (.getfield 17, 3) := by decide +kernel
theorem dX10_valueAt_22 : decode cX10_valueAt 22 = .ok (.bipush 101, 2) := by decide +kernel
theorem dX10_valueAt_24 : decode cX10_valueAt 24 = .ok (.iload_n 1, 1) := by decide +kernel
theorem dX10_valueAt_25 : decode cX10_valueAt 25 = .ok (.imul, 1) := by decide +kernel
theorem dX10_valueAt_26 : decode cX10_valueAt 26 = .ok (.iload_n 2, 1) := by decide +kernel
theorem dX10_valueAt_27 : decode cX10_valueAt 27 = .ok (.iadd, 1) := by decide +kernel
theorem dX10_valueAt_28 : decode cX10_valueAt 28 = .ok (.iaload, 1) := by decide +kernel
theorem dX10_valueAt_29 : decode cX10_valueAt 29 = .ok (.ireturn, 1) := by decide +kernel
theorem dX10_placeOf_0 : decode cX10_placeOf 0 = .ok (.aload_n 0, 1) := by decide +kernel
theorem dX10_placeOf_1 : decode cX10_placeOf 1 = .ok (.iconst 0, 1) := by decide +kernel
theorem dX10_placeOf_2 : decode cX10_placeOf 2 = .ok (.putfield 1, 3) := by decide +kernel
theorem dX10_placeOf_5 : decode cX10_placeOf 5 = .ok (.aload_n 0, 1) := by decide +kernel
theorem dX10_placeOf_6 : decode cX10_placeOf 6 = .ok (.iload_n 1, 1) := by decide +kernel
theorem dX10_placeOf_7 : decode cX10_placeOf 7 = .ok (.iload_n 2, 1) := by decide +kernel
theorem dX10_placeOf_8 : decode cX10_placeOf 8 = .ok (.invokevirtual 103, 3) := by decide +kernel
theorem dX10_placeOf_11 : decode cX10_placeOf 11 = .ok (.ifCond .eq 7, 3) := by decide +kernel
theorem dX10_placeOf_14 : decode cX10_placeOf 14 = .ok (.iconst 0, 1) := by decide +kernel
theorem dX10_placeOf_15 : decode cX10_placeOf 15 = .ok (.goto 9, 3) := by decide +kernel
theorem dX10_placeOf_18 : decode cX10_placeOf 18 = .ok (.aload_n 0, 1) := by decide +kernel
theorem dX10_placeOf_19 : decode cX10_placeOf 19 = .ok (.iload_n 1, 1) := by decide +kernel
theorem dX10_placeOf_20 : decode cX10_placeOf 20 = .ok (.iload_n 2, 1) := by decide +kernel
theorem dX10_placeOf_21 : decode cX10_placeOf 21 = .ok (.invokevirtual 114, 3) := by decide +kernel
theorem dX10_placeOf_24 : decode cX10_placeOf 24 = .ok (.ireturn, 1) := by decide +kernel
theorem dX10_sum_0 : decode cX10_sum 0 = .ok (.aload_n 0, 1) := by decide +kernel
theorem dX10_sum_1 : decode cX10_sum 1 = .ok (.iconst 0, 1) := by decide +kernel
theorem dX10_sum_2 : decode cX10_sum 2 = .ok (.putfield 1, 3) := by decide +kernel
theorem dX10_sum_5 : decode cX10_sum 5 = .ok (.aload_n 0, 1) := by decide +kernel
theorem dX10_sum_6 : decode cX10_sum 6 = .ok (.iload_n 1, 1) := by decide +kernel
theorem dX10_sum_7 : decode cX10_sum 7 = .ok (.invokevirtual 92, 3) := by decide +kernel
theorem dX10_sum_10 : decode cX10_sum 10 = .ok (.ifCond .eq 5, 3) := by decide +kernel
theorem dX10_sum_13 : decode cX10_sum 13 = .ok (.iconst 0, 1) := by decide +kernel
theorem dX10_sum_14 : decode cX10_sum 14 = .ok (.ireturn, 1) := by decide +kernel
theorem dX10_sum_15 : decode cX10_sum 15 = .ok (.iconst 0, 1) := by decide +kernel
theorem dX10_sum_16 : decode cX10_sum 16 = .ok (.istore_n 2, 1) := by decide +kernel
theorem dX10_sum_17 : decode cX10_sum 17 = .ok (.iconst 0, 1) := by decide +kernel
theorem dX10_sum_18 : decode cX10_sum 18 = .ok (.istore_n 3, 1) := by decide +kernel
theorem dX10_sum_19 : decode cX10_sum 19 = .ok (.iload_n 3, 1) := by decide +kernel
theorem dX10_sum_20 : decode cX10_sum 20 = .ok (.aload_n 0, 1) := by decide +kernel
theorem dX10_sum_21 : decode cX10_sum 21 = .ok (.getfield 20, 3) := by decide +kernel
theorem dX10_sum_24 : decode cX10_sum 24 = .ok (.iload_n 1, 1) := by decide +kernel
theorem dX10_sum_25 : decode cX10_sum 25 = .ok (.iaload, 1) := by decide +kernel
theorem dX10_sum_26 : decode cX10_sum 26 = .ok (.if_icmp .ge 23, 3) := by decide +kernel
theorem dX10_sum_29 : decode cX10_sum 29 = .ok (.iload_n 2, 1) := by decide +kernel
theorem dX10_sum_30 : decode cX10_sum 30 = .ok (.aload_n 0, 1) := by decide +kernel
theorem dX10_sum_31 : decode cX10_sum 31 = .ok (.getfield 17, 3) := by decide +kernel
theorem dX10_sum_34 : decode cX10_sum 34 = .ok (.bipush 101, 2) := by decide +kernel
theorem dX10_sum_36 : decode cX10_sum 36 = .ok (.iload_n 1, 1) := by decide +kernel
theorem dX10_sum_37 : decode cX10_sum 37 = .ok (.imul, 1) := by decide +kernel
theorem dX10_sum_38 : decode cX10_sum 38 = .ok (.iload_n 3, 1) := by decide +kernel
theorem dX10_sum_39 : decode cX10_sum 39 = .ok (.iadd, 1) := by decide +kernel
theorem dX10_sum_40 : decode cX10_sum 40 = .ok (.iaload, 1) := by decide +kernel
theorem dX10_sum_41 : decode cX10_sum 41 = .ok (.iadd, 1) := by decide +kernel
theorem dX10_sum_42 : decode cX10_sum 42 = .ok (.istore_n 2, 1) := by decide +kernel
theorem dX10_sum_43 : decode cX10_sum 43 = .ok (.iinc 3 1, 3) := by decide +kernel
theorem dX10_sum_46 : decode cX10_sum 46 = .ok (.goto (-27), 3) := by decide +kernel
theorem dX10_sum_49 : decode cX10_sum 49 = .ok (.iload_n 2, 1) := by decide +kernel
theorem dX10_sum_50 : decode cX10_sum 50 = .ok (.ireturn, 1) := by decide +kernel
theorem dX10_putOut_0 : decode cX10_putOut 0 = .ok (.aload_n 0, 1) := by decide +kernel
theorem dX10_putOut_1 : decode cX10_putOut 1 = .ok (.iconst 0, 1) := by decide +kernel
theorem dX10_putOut_2 : decode cX10_putOut 2 = .ok (.putfield 1, 3) := by decide +kernel
theorem dX10_putOut_5 : decode cX10_putOut 5 = .ok (.aload_n 0, 1) := by decide +kernel
theorem dX10_putOut_6 : decode cX10_putOut 6 = .ok (.getfield 96, 3) := by decide +kernel
theorem dX10_putOut_9 : decode cX10_putOut 9 = .ok (.ireturn, 1) := by decide +kernel
theorem dX10_lastPutOut_0 : decode cX10_lastPutOut 0 = .ok (.aload_n 0, 1) := by decide +kernel
theorem dX10_lastPutOut_1 : decode cX10_lastPutOut 1 = .ok (.iconst 0, 1) := by decide +kernel
theorem dX10_lastPutOut_2 : decode cX10_lastPutOut 2 = .ok (.putfield 1, 3) := by decide +kernel
theorem dX10_lastPutOut_5 : decode cX10_lastPutOut 5 = .ok (.aload_n 0, 1) := by decide +kernel
theorem dX10_lastPutOut_6 : decode cX10_lastPutOut 6 = .ok (.getfield 26, 3) := by decide +kernel
theorem dX10_lastPutOut_9 : decode cX10_lastPutOut 9 = .ok (.ireturn, 1) := by decide +kernel
theorem dX10_beginCursor_0 : decode cX10_beginCursor 0 = .ok (.aload_n 0, 1) := by decide +kernel
theorem dX10_beginCursor_1 : decode cX10_beginCursor 1 = .ok (.iconst 0, 1) := by decide +kernel
theorem dX10_beginCursor_2 : decode cX10_beginCursor 2 = .ok (.putfield 1, 3) := by decide +kernel
theorem dX10_beginCursor_5 : decode cX10_beginCursor 5 = .ok (.aload_n 0, 1) := by decide +kernel
theorem dX10_beginCursor_6 : decode cX10_beginCursor 6 = .ok (.iload_n 1, 1) := by decide +kernel
theorem dX10_beginCursor_7 : decode cX10_beginCursor 7 = .ok (.invokevirtual 92, 3) := by decide +kernel
theorem dX10_beginCursor_10 : decode cX10_beginCursor 10 = .ok (.ifCond .eq 5, 3) := by decide +kernel
theorem dX10_beginCursor_13 : decode cX10_beginCursor 13 = .ok (.iconst 0, 1) := by decide +kernel
theorem dX10_beginCursor_14 : decode cX10_beginCursor 14 = .ok (.ireturn, 1) := by decide +kernel
theorem dX10_beginCursor_15 : decode cX10_beginCursor 15 = .ok (.aload_n 0, 1) := by decide +kernel
theorem dX10_beginCursor_16 : decode cX10_beginCursor 16 = .ok (.getfield 29, 3) := by decide +kernel
theorem dX10_beginCursor_19 : decode cX10_beginCursor 19 = .ok (.iload_n 1, 1) := by decide +kernel
theorem dX10_beginCursor_20 : decode cX10_beginCursor 20 = .ok (.iconst 0, 1) := by decide +kernel
theorem dX10_beginCursor_21 : decode cX10_beginCursor 21 = .ok (.iastore, 1) := by decide +kernel
theorem dX10_beginCursor_22 : decode cX10_beginCursor 22 = .ok (.aload_n 0, 1) := by decide +kernel
theorem dX10_beginCursor_23 : decode cX10_beginCursor 23 = .ok (.getfield 32, 3) := by decide +kernel
theorem dX10_beginCursor_26 : decode cX10_beginCursor 26 = .ok (.iload_n 1, 1) := by decide +kernel
theorem dX10_beginCursor_27 : decode cX10_beginCursor 27 = .ok (.iconst 0, 1) := by decide +kernel
theorem dX10_beginCursor_28 : decode cX10_beginCursor 28 = .ok (.bastore, 1) := by decide +kernel
theorem dX10_beginCursor_29 : decode cX10_beginCursor 29 = .ok (.aload_n 0, 1) := by decide +kernel
theorem dX10_beginCursor_30 : decode cX10_beginCursor 30 = .ok (.getfield 20, 3) := by decide +kernel
theorem dX10_beginCursor_33 : decode cX10_beginCursor 33 = .ok (.iload_n 1, 1) := by decide +kernel
theorem dX10_beginCursor_34 : decode cX10_beginCursor 34 = .ok (.iaload, 1) := by decide +kernel
theorem dX10_beginCursor_35 : decode cX10_beginCursor 35 = .ok (.ireturn, 1) := by decide +kernel
theorem dX10_hasNext_0 : decode cX10_hasNext 0 = .ok (.aload_n 0, 1) := by decide +kernel
theorem dX10_hasNext_1 : decode cX10_hasNext 1 = .ok (.iconst 0, 1) := by decide +kernel
theorem dX10_hasNext_2 : decode cX10_hasNext 2 = .ok (.putfield 1, 3) := by decide +kernel
theorem dX10_hasNext_5 : decode cX10_hasNext 5 = .ok (.aload_n 0, 1) := by decide +kernel
theorem dX10_hasNext_6 : decode cX10_hasNext 6 = .ok (.iload_n 1, 1) := by decide +kernel
theorem dX10_hasNext_7 : decode cX10_hasNext 7 = .ok (.invokevirtual 92, 3) := by decide +kernel
theorem dX10_hasNext_10 : decode cX10_hasNext 10 = .ok (.ifCond .ne 32, 3) := by decide +kernel
theorem dX10_hasNext_13 : decode cX10_hasNext 13 = .ok (.aload_n 0, 1) := by decide +kernel
theorem dX10_hasNext_14 : decode cX10_hasNext 14 = .ok (.getfield 29, 3) := by decide +kernel
theorem dX10_hasNext_17 : decode cX10_hasNext 17 = .ok (.iload_n 1, 1) := by decide +kernel
theorem dX10_hasNext_18 : decode cX10_hasNext 18 = .ok (.iaload, 1) := by decide +kernel
theorem dX10_hasNext_19 : decode cX10_hasNext 19 = .ok (.iconst (-1), 1) := by decide +kernel
theorem dX10_hasNext_20 : decode cX10_hasNext 20 = .ok (.if_icmp .eq 22, 3) := by decide +kernel
theorem dX10_hasNext_23 : decode cX10_hasNext 23 = .ok (.aload_n 0, 1) := by decide +kernel
theorem dX10_hasNext_24 : decode cX10_hasNext 24 = .ok (.getfield 29, 3) := by decide +kernel
theorem dX10_hasNext_27 : decode cX10_hasNext 27 = .ok (.iload_n 1, 1) := by decide +kernel
theorem dX10_hasNext_28 : decode cX10_hasNext 28 = .ok (.iaload, 1) := by decide +kernel
theorem dX10_hasNext_29 : decode cX10_hasNext 29 = .ok (.aload_n 0, 1) := by decide +kernel
theorem dX10_hasNext_30 : decode cX10_hasNext 30 = .ok (.getfield 20, 3) := by decide +kernel
theorem dX10_hasNext_33 : decode cX10_hasNext 33 = .ok (.iload_n 1, 1) := by decide +kernel
theorem dX10_hasNext_34 : decode cX10_hasNext 34 = .ok (.iaload, 1) := by decide +kernel
theorem dX10_hasNext_35 : decode cX10_hasNext 35 = .ok (.if_icmp .ge 7, 3) := by decide +kernel
theorem dX10_hasNext_38 : decode cX10_hasNext 38 = .ok (.iconst 1, 1) := by decide +kernel
theorem dX10_hasNext_39 : decode cX10_hasNext 39 = .ok (.goto 4, 3) := by decide +kernel
theorem dX10_hasNext_42 : decode cX10_hasNext 42 = .ok (.iconst 0, 1) := by decide +kernel
theorem dX10_hasNext_43 : decode cX10_hasNext 43 = .ok (.ireturn, 1) := by decide +kernel
theorem dX10_next_0 : decode cX10_next 0 = .ok (.aload_n 0, 1) := by decide +kernel
theorem dX10_next_1 : decode cX10_next 1 = .ok (.iconst 0, 1) := by decide +kernel
theorem dX10_next_2 : decode cX10_next 2 = .ok (.putfield 1, 3) := by decide +kernel
theorem dX10_next_5 : decode cX10_next 5 = .ok (.aload_n 0, 1) := by decide +kernel
theorem dX10_next_6 : decode cX10_next 6 = .ok (.iload_n 1, 1) := by decide +kernel
theorem dX10_next_7 : decode cX10_next 7 = .ok (.invokevirtual 92, 3) := by decide +kernel
theorem dX10_next_10 : decode cX10_next 10 = .ok (.ifCond .ne 54, 3) := by decide +kernel
theorem dX10_next_13 : decode cX10_next 13 = .ok (.aload_n 0, 1) := by decide +kernel
theorem dX10_next_14 : decode cX10_next 14 = .ok (.aload_n 0, 1) := by decide +kernel
theorem dX10_next_15 : decode cX10_next 15 = .ok (.getfield 29, 3) := by decide +kernel
theorem dX10_next_18 : decode cX10_next 18 = .ok (.iload_n 1, 1) := by decide +kernel
theorem dX10_next_19 : decode cX10_next 19 = .ok (.iaload, 1) := by decide +kernel
theorem dX10_next_20 : decode cX10_next 20 = .ok (.iconst (-1), 1) := by decide +kernel
theorem dX10_next_21 : decode cX10_next 21 = .ok (.if_icmp .eq 7, 3) := by decide +kernel
theorem dX10_next_24 : decode cX10_next 24 = .ok (.iconst 1, 1) := by decide +kernel
theorem dX10_next_25 : decode cX10_next 25 = .ok (.goto 4, 3) := by decide +kernel
theorem dX10_next_28 : decode cX10_next 28 = .ok (.iconst 0, 1) := by decide +kernel
theorem dX10_next_29 : decode cX10_next 29 = .ok (.iconst 2, 1) := by decide +kernel
theorem dX10_next_30 : decode cX10_next 30 = .ok (.invokevirtual 88, 3) := by decide +kernel
theorem dX10_next_33 : decode cX10_next 33 = .ok (.ifCond .ne 31, 3) := by decide +kernel
theorem dX10_next_36 : decode cX10_next 36 = .ok (.aload_n 0, 1) := by decide +kernel
theorem dX10_next_37 : decode cX10_next 37 = .ok (.aload_n 0, 1) := by decide +kernel
theorem dX10_next_38 : decode cX10_next 38 = .ok (.getfield 29, 3) := by decide +kernel
theorem dX10_next_41 : decode cX10_next 41 = .ok (.iload_n 1, 1) := by decide +kernel
theorem dX10_next_42 : decode cX10_next 42 = .ok (.iaload, 1) := by decide +kernel
theorem dX10_next_43 : decode cX10_next 43 = .ok (.aload_n 0, 1) := by decide +kernel
theorem dX10_next_44 : decode cX10_next 44 = .ok (.getfield 20, 3) := by decide +kernel
theorem dX10_next_47 : decode cX10_next 47 = .ok (.iload_n 1, 1) := by decide +kernel
theorem dX10_next_48 : decode cX10_next 48 = .ok (.iaload, 1) := by decide +kernel
theorem dX10_next_49 : decode cX10_next 49 = .ok (.if_icmp .ge 7, 3) := by decide +kernel
theorem dX10_next_52 : decode cX10_next 52 = .ok (.iconst 1, 1) := by decide +kernel
theorem dX10_next_53 : decode cX10_next 53 = .ok (.goto 4, 3) := by decide +kernel
theorem dX10_next_56 : decode cX10_next 56 = .ok (.iconst 0, 1) := by decide +kernel
theorem dX10_next_57 : decode cX10_next 57 = .ok (.iconst 3, 1) := by decide +kernel
theorem dX10_next_58 : decode cX10_next 58 = .ok (.invokevirtual 88, 3) := by decide +kernel
theorem dX10_next_61 : decode cX10_next 61 = .ok (.ifCond .eq 5, 3) := by decide +kernel
theorem dX10_next_64 : decode cX10_next 64 = .ok (.iconst 0, 1) := by decide +kernel
theorem dX10_next_65 : decode cX10_next 65 = .ok (.ireturn, 1) := by decide +kernel
theorem dX10_next_66 : decode cX10_next 66 = .ok (.bipush 101, 2) := by decide +kernel
theorem dX10_next_68 : decode cX10_next 68 = .ok (.iload_n 1, 1) := by decide +kernel
theorem dX10_next_69 : decode cX10_next 69 = .ok (.imul, 1) := by decide +kernel
theorem dX10_next_70 : decode cX10_next 70 = .ok (.aload_n 0, 1) := by decide +kernel
theorem dX10_next_71 : decode cX10_next 71 = .ok (.getfield 29, 3) := by decide +kernel
theorem dX10_next_74 : decode cX10_next 74 = .ok (.iload_n 1, 1) := by decide +kernel
theorem dX10_next_75 : decode cX10_next 75 = .ok (.iaload, 1) := by decide +kernel
theorem dX10_next_76 : decode cX10_next 76 = .ok (.iadd, 1) := by decide +kernel
theorem dX10_next_77 : decode cX10_next 77 = .ok (.istore_n 2, 1) := by decide +kernel
theorem dX10_next_78 : decode cX10_next 78 = .ok (.aload_n 0, 1) := by decide +kernel
theorem dX10_next_79 : decode cX10_next 79 = .ok (.getfield 29, 3) := by decide +kernel
theorem dX10_next_82 : decode cX10_next 82 = .ok (.iload_n 1, 1) := by decide +kernel
theorem dX10_next_83 : decode cX10_next 83 = .ok (.dup2, 1) := by decide +kernel
theorem dX10_next_84 : decode cX10_next 84 = .ok (.iaload, 1) := by decide +kernel
theorem dX10_next_85 : decode cX10_next 85 = .ok (.iconst 1, 1) := by decide +kernel
theorem dX10_next_86 : decode cX10_next 86 = .ok (.iadd, 1) := by decide +kernel
theorem dX10_next_87 : decode cX10_next 87 = .ok (.iastore, 1) := by decide +kernel
theorem dX10_next_88 : decode cX10_next 88 = .ok (.aload_n 0, 1) := by decide +kernel
theorem dX10_next_89 : decode cX10_next 89 = .ok (.getfield 32, 3) := by decide +kernel
theorem dX10_next_92 : decode cX10_next 92 = .ok (.iload_n 1, 1) := by decide +kernel
theorem dX10_next_93 : decode cX10_next 93 = .ok (.iconst 1, 1) := by decide +kernel
theorem dX10_next_94 : decode cX10_next 94 = .ok (.bastore, 1) := by decide +kernel
theorem dX10_next_95 : decode cX10_next 95 = .ok (.sipush 1000, 3) := by decide +kernel
theorem dX10_next_98 : decode cX10_next 98 = .ok (.aload_n 0, 1) := by decide +kernel
theorem dX10_next_99 : decode cX10_next 99 = .ok (.getfield 13, 3) := by decide +kernel
theorem dX10_next_102 : decode cX10_next 102 = .ok (.iload_n 2, 1) := by decide +kernel
theorem dX10_next_103 : decode cX10_next 103 = .ok (.iaload, 1) := by decide +kernel
theorem dX10_next_104 : decode cX10_next 104 = .ok (.imul, 1) := by decide +kernel
theorem dX10_next_105 : decode cX10_next 105 = .ok (.aload_n 0, 1) := by decide +kernel
theorem dX10_next_106 : decode cX10_next 106 = .ok (.getfield 17, 3) := by decide +kernel
theorem dX10_next_109 : decode cX10_next 109 = .ok (.iload_n 2, 1) := by decide +kernel
theorem dX10_next_110 : decode cX10_next 110 = .ok (.iaload, 1) := by decide +kernel
theorem dX10_next_111 : decode cX10_next 111 = .ok (.iadd, 1) := by decide +kernel
theorem dX10_next_112 : decode cX10_next 112 = .ok (.ireturn, 1) := by decide +kernel
theorem dX10_takeOut_0 : decode cX10_takeOut 0 = .ok (.aload_n 0, 1) := by decide +kernel
theorem dX10_takeOut_1 : decode cX10_takeOut 1 = .ok (.iconst 0, 1) := by decide +kernel
theorem dX10_takeOut_2 : decode cX10_takeOut 2 = .ok (.putfield 1, 3) := by decide +kernel
theorem dX10_takeOut_5 : decode cX10_takeOut 5 = .ok (.aload_n 0, 1) := by decide +kernel
theorem dX10_takeOut_6 : decode cX10_takeOut 6 = .ok (.iload_n 1, 1) := by decide +kernel
theorem dX10_takeOut_7 : decode cX10_takeOut 7 = .ok (.invokevirtual 92, 3) := by decide +kernel
theorem dX10_takeOut_10 : decode cX10_takeOut 10 = .ok (.ifCond .ne 17, 3) := by decide +kernel
theorem dX10_takeOut_13 : decode cX10_takeOut 13 = .ok (.aload_n 0, 1) := by decide +kernel
theorem dX10_takeOut_14 : decode cX10_takeOut 14 = .ok (.aload_n 0, 1) := by decide +kernel
theorem dX10_takeOut_15 : decode cX10_takeOut 15 = .ok (.getfield 32, 3) := by decide +kernel
theorem dX10_takeOut_18 : decode cX10_takeOut 18 = .ok (.iload_n 1, 1) := by decide +kernel
theorem dX10_takeOut_19 : decode cX10_takeOut 19 = .ok (.baload, 1) := by decide +kernel
theorem dX10_takeOut_20 : decode cX10_takeOut 20 = .ok (.iconst 2, 1) := by decide +kernel
theorem dX10_takeOut_21 : decode cX10_takeOut 21 = .ok (.invokevirtual 88, 3) := by decide +kernel
theorem dX10_takeOut_24 : decode cX10_takeOut 24 = .ok (.ifCond .eq 5, 3) := by decide +kernel
theorem dX10_takeOut_27 : decode cX10_takeOut 27 = .ok (.iconst 0, 1) := by decide +kernel
theorem dX10_takeOut_28 : decode cX10_takeOut 28 = .ok (.ireturn, 1) := by decide +kernel
theorem dX10_takeOut_29 : decode cX10_takeOut 29 = .ok (.aload_n 0, 1) := by decide +kernel
theorem dX10_takeOut_30 : decode cX10_takeOut 30 = .ok (.getfield 32, 3) := by decide +kernel
theorem dX10_takeOut_33 : decode cX10_takeOut 33 = .ok (.iload_n 1, 1) := by decide +kernel
theorem dX10_takeOut_34 : decode cX10_takeOut 34 = .ok (.iconst 0, 1) := by decide +kernel
theorem dX10_takeOut_35 : decode cX10_takeOut 35 = .ok (.bastore, 1) := by decide +kernel
theorem dX10_takeOut_36 : decode cX10_takeOut 36 = .ok (.aload_n 0, 1) := by decide +kernel
theorem dX10_takeOut_37 : decode cX10_takeOut 37 = .ok (.getfield 29, 3) := by decide +kernel
theorem dX10_takeOut_40 : decode cX10_takeOut 40 = .ok (.iload_n 1, 1) := by decide +kernel
theorem dX10_takeOut_41 : decode cX10_takeOut 41 = .ok (.dup2, 1) := by decide +kernel
theorem dX10_takeOut_42 : decode cX10_takeOut 42 = .ok (.iaload, 1) := by decide +kernel
theorem dX10_takeOut_43 : decode cX10_takeOut 43 = .ok (.iconst 1, 1) := by decide +kernel
theorem dX10_takeOut_44 : decode cX10_takeOut 44 = .ok (.isub, 1) := by decide +kernel
theorem dX10_takeOut_45 : decode cX10_takeOut 45 = .ok (.iastore, 1) := by decide +kernel
theorem dX10_takeOut_46 : decode cX10_takeOut 46 = .ok (.aload_n 0, 1) := by decide +kernel
theorem dX10_takeOut_47 : decode cX10_takeOut 47 = .ok (.iload_n 1, 1) := by decide +kernel
theorem dX10_takeOut_48 : decode cX10_takeOut 48 = .ok (.aload_n 0, 1) := by decide +kernel
theorem dX10_takeOut_49 : decode cX10_takeOut 49 = .ok (.getfield 29, 3) := by decide +kernel
theorem dX10_takeOut_52 : decode cX10_takeOut 52 = .ok (.iload_n 1, 1) := by decide +kernel
theorem dX10_takeOut_53 : decode cX10_takeOut 53 = .ok (.iaload, 1) := by decide +kernel
theorem dX10_takeOut_54 : decode cX10_takeOut 54 = .ok (.invokevirtual 99, 3) := by decide +kernel
theorem dX10_takeOut_57 : decode cX10_takeOut 57 = .ok (.pop, 1) := by decide +kernel
theorem dX10_takeOut_58 : decode cX10_takeOut 58 = .ok (.aload_n 0, 1) := by decide +kernel
theorem dX10_takeOut_59 : decode cX10_takeOut 59 = .ok (.getfield 20, 3) := by decide +kernel
theorem dX10_takeOut_62 : decode cX10_takeOut 62 = .ok (.iload_n 1, 1) := by decide +kernel
theorem dX10_takeOut_63 : decode cX10_takeOut 63 = .ok (.iaload, 1) := by decide +kernel
theorem dX10_takeOut_64 : decode cX10_takeOut 64 = .ok (.ireturn, 1) := by decide +kernel
theorem dX10_noCache_0 : decode cX10_noCache 0 = .ok (.aload_n 0, 1) := by decide +kernel
theorem dX10_noCache_1 : decode cX10_noCache 1 = .ok (.iload_n 1, 1) := by decide +kernel
theorem dX10_noCache_2 : decode cX10_noCache 2 = .ok (.iconst 1, 1) := by decide +kernel
theorem dX10_noCache_3 : decode cX10_noCache 3 = .ok (.bipush 8, 2) := by decide +kernel
theorem dX10_noCache_5 : decode cX10_noCache 5 = .ok (.invokestatic 84, 3) := by decide +kernel
theorem dX10_noCache_8 : decode cX10_noCache 8 = .ok (.iconst 1, 1) := by decide +kernel
theorem dX10_noCache_9 : decode cX10_noCache 9 = .ok (.invokevirtual 88, 3) := by decide +kernel
theorem dX10_noCache_12 : decode cX10_noCache 12 = .ok (.ireturn, 1) := by decide +kernel
theorem dX10_cachePlace_0 : decode cX10_cachePlace 0 = .ok (.iconst 0, 1) := by decide +kernel
theorem dX10_cachePlace_1 : decode cX10_cachePlace 1 = .ok (.istore_n 3, 1) := by decide +kernel
theorem dX10_cachePlace_2 : decode cX10_cachePlace 2 = .ok (.iload_n 3, 1) := by decide +kernel
theorem dX10_cachePlace_3 : decode cX10_cachePlace 3 = .ok (.aload_n 0, 1) := by decide +kernel
theorem dX10_cachePlace_4 : decode cX10_cachePlace 4 = .ok (.getfield 39, 3) := by decide +kernel
theorem dX10_cachePlace_7 : decode cX10_cachePlace 7 = .ok (.iload_n 1, 1) := by decide +kernel
theorem dX10_cachePlace_8 : decode cX10_cachePlace 8 = .ok (.iaload, 1) := by decide +kernel
theorem dX10_cachePlace_9 : decode cX10_cachePlace 9 = .ok (.if_icmp .ge 26, 3) := by decide +kernel
theorem dX10_cachePlace_12 : decode cX10_cachePlace 12 = .ok (.aload_n 0, 1) := by decide +kernel
theorem dX10_cachePlace_13 : decode cX10_cachePlace 13 = .ok (.getfield 36, 3) := by decide +kernel
theorem dX10_cachePlace_16 : decode cX10_cachePlace 16 = .ok (.bipush 9, 2) := by decide +kernel
theorem dX10_cachePlace_18 : decode cX10_cachePlace 18 = .ok (.iload_n 1, 1) := by decide +kernel
theorem dX10_cachePlace_19 : decode cX10_cachePlace 19 = .ok (.imul, 1) := by decide +kernel
theorem dX10_cachePlace_20 : decode cX10_cachePlace 20 = .ok (.iload_n 3, 1) := by decide +kernel
theorem dX10_cachePlace_21 : decode cX10_cachePlace 21 = .ok (.iadd, 1) := by decide +kernel
theorem dX10_cachePlace_22 : decode cX10_cachePlace 22 = .ok (.iaload, 1) := by decide +kernel
theorem dX10_cachePlace_23 : decode cX10_cachePlace 23 = .ok (.iload_n 2, 1) := by decide +kernel
theorem dX10_cachePlace_24 : decode cX10_cachePlace 24 = .ok (.if_icmp .ne 5, 3) := by decide +kernel
theorem dX10_cachePlace_27 : decode cX10_cachePlace 27 = .ok (.iload_n 3, 1) := by decide +kernel
theorem dX10_cachePlace_28 : decode cX10_cachePlace 28 = .ok (.ireturn, 1) := by decide +kernel
theorem dX10_cachePlace_29 : decode cX10_cachePlace 29 = .ok (.iinc 3 1, 3) := by decide +kernel
theorem dX10_cachePlace_32 : decode cX10_cachePlace 32 = .ok (.goto (-30), 3) := by decide +kernel
theorem dX10_cachePlace_35 : decode cX10_cachePlace 35 = .ok (.iconst (-1), 1) := by decide +kernel
theorem dX10_cachePlace_36 : decode cX10_cachePlace 36 = .ok (.ireturn, 1) := by decide +kernel
theorem dX10_leaves_0 : decode cX10_leaves 0 = .ok (.aload_n 0, 1) := by decide +kernel
theorem dX10_leaves_1 : decode cX10_leaves 1 = .ok (.getfield 39, 3) := by decide +kernel
theorem dX10_leaves_4 : decode cX10_leaves 4 = .ok (.iload_n 1, 1) := by decide +kernel
theorem dX10_leaves_5 : decode cX10_leaves 5 = .ok (.dup2, 1) := by decide +kernel
theorem dX10_leaves_6 : decode cX10_leaves 6 = .ok (.iaload, 1) := by decide +kernel
theorem dX10_leaves_7 : decode cX10_leaves 7 = .ok (.iconst 1, 1) := by decide +kernel
theorem dX10_leaves_8 : decode cX10_leaves 8 = .ok (.isub, 1) := by decide +kernel
theorem dX10_leaves_9 : decode cX10_leaves 9 = .ok (.iastore, 1) := by decide +kernel
theorem dX10_leaves_10 : decode cX10_leaves 10 = .ok (.iload_n 2, 1) := by decide +kernel
theorem dX10_leaves_11 : decode cX10_leaves 11 = .ok (.istore_n 3, 1) := by decide +kernel
theorem dX10_leaves_12 : decode cX10_leaves 12 = .ok (.iload_n 3, 1) := by decide +kernel
theorem dX10_leaves_13 : decode cX10_leaves 13 = .ok (.aload_n 0, 1) := by decide +kernel
theorem dX10_leaves_14 : decode cX10_leaves 14 = .ok (.getfield 39, 3) := by decide +kernel
theorem dX10_leaves_17 : decode cX10_leaves 17 = .ok (.iload_n 1, 1) := by decide +kernel
theorem dX10_leaves_18 : decode cX10_leaves 18 = .ok (.iaload, 1) := by decide +kernel
theorem dX10_leaves_19 : decode cX10_leaves 19 = .ok (.if_icmp .ge 33, 3) := by decide +kernel
theorem dX10_leaves_22 : decode cX10_leaves 22 = .ok (.aload_n 0, 1) := by decide +kernel
theorem dX10_leaves_23 : decode cX10_leaves 23 = .ok (.getfield 36, 3) := by decide +kernel
theorem dX10_leaves_26 : decode cX10_leaves 26 = .ok (.bipush 9, 2) := by decide +kernel
theorem dX10_leaves_28 : decode cX10_leaves 28 = .ok (.iload_n 1, 1) := by decide +kernel
theorem dX10_leaves_29 : decode cX10_leaves 29 = .ok (.imul, 1) := by decide +kernel
theorem dX10_leaves_30 : decode cX10_leaves 30 = .ok (.iload_n 3, 1) := by decide +kernel
theorem dX10_leaves_31 : decode cX10_leaves 31 = .ok (.iadd, 1) := by decide +kernel
theorem dX10_leaves_32 : decode cX10_leaves 32 = .ok (.aload_n 0, 1) := by decide +kernel
theorem dX10_leaves_33 : decode cX10_leaves 33 = .ok (.getfield 36, 3) := by decide +kernel
theorem dX10_leaves_36 : decode cX10_leaves 36 = .ok (.bipush 9, 2) := by decide +kernel
theorem dX10_leaves_38 : decode cX10_leaves 38 = .ok (.iload_n 1, 1) := by decide +kernel
theorem dX10_leaves_39 : decode cX10_leaves 39 = .ok (.imul, 1) := by decide +kernel
theorem dX10_leaves_40 : decode cX10_leaves 40 = .ok (.iload_n 3, 1) := by decide +kernel
theorem dX10_leaves_41 : decode cX10_leaves 41 = .ok (.iadd, 1) := by decide +kernel
theorem dX10_leaves_42 : decode cX10_leaves 42 = .ok (.iconst 1, 1) := by decide +kernel
theorem dX10_leaves_43 : decode cX10_leaves 43 = .ok (.iadd, 1) := by decide +kernel
theorem dX10_leaves_44 : decode cX10_leaves 44 = .ok (.iaload, 1) := by decide +kernel
theorem dX10_leaves_45 : decode cX10_leaves 45 = .ok (.iastore, 1) := by decide +kernel
theorem dX10_leaves_46 : decode cX10_leaves 46 = .ok (.iinc 3 1, 3) := by decide +kernel
theorem dX10_leaves_49 : decode cX10_leaves 49 = .ok (.goto (-37), 3) := by decide +kernel
theorem dX10_leaves_52 : decode cX10_leaves 52 = .ok (.return_, 1) := by decide +kernel
theorem dX10_asks_0 : decode cX10_asks 0 = .ok (.aload_n 0, 1) := by decide +kernel
theorem dX10_asks_1 : decode cX10_asks 1 = .ok (.getfield 45, 3) := by decide +kernel
theorem dX10_asks_4 : decode cX10_asks 4 = .ok (.aload_n 0, 1) := by decide +kernel
theorem dX10_asks_5 : decode cX10_asks 5 = .ok (.getfield 127, 3) := by decide +kernel
theorem dX10_asks_8 : decode cX10_asks 8 = .ok (.iload_n 1, 1) := by decide +kernel
theorem dX10_asks_9 : decode cX10_asks 9 = .ok (.iastore, 1) := by decide +kernel
theorem dX10_asks_10 : decode cX10_asks 10 = .ok (.aload_n 0, 1) := by decide +kernel
theorem dX10_asks_11 : decode cX10_asks 11 = .ok (.dup, 1) := by decide +kernel
theorem dX10_asks_12 : decode cX10_asks 12 = .ok (.getfield 127, 3) := by decide +kernel
theorem dX10_asks_15 : decode cX10_asks 15 = .ok (.iconst 1, 1) := by decide +kernel
theorem dX10_asks_16 : decode cX10_asks 16 = .ok (.iadd, 1) := by decide +kernel
theorem dX10_asks_17 : decode cX10_asks 17 = .ok (.putfield 127, 3) := by decide +kernel
theorem dX10_asks_20 : decode cX10_asks 20 = .ok (.iconst 0, 1) := by decide +kernel
theorem dX10_asks_21 : decode cX10_asks 21 = .ok (.istore_n 2, 1) := by decide +kernel
theorem dX10_asks_22 : decode cX10_asks 22 = .ok (.iconst 1, 1) := by decide +kernel
theorem dX10_asks_23 : decode cX10_asks 23 = .ok (.istore_n 3, 1) := by decide +kernel
theorem dX10_asks_24 : decode cX10_asks 24 = .ok (.iload_n 3, 1) := by decide +kernel
theorem dX10_asks_25 : decode cX10_asks 25 = .ok (.bipush 8, 2) := by decide +kernel
theorem dX10_asks_27 : decode cX10_asks 27 = .ok (.if_icmp .gt 91, 3) := by decide +kernel
theorem dX10_asks_30 : decode cX10_asks 30 = .ok (.aload_n 0, 1) := by decide +kernel
theorem dX10_asks_31 : decode cX10_asks 31 = .ok (.iload_n 3, 1) := by decide +kernel
theorem dX10_asks_32 : decode cX10_asks 32 = .ok (.iload_n 1, 1) := by decide +kernel
theorem dX10_asks_33 : decode cX10_asks 33 = .ok (.invokevirtual 130, 3) := by decide +kernel
theorem dX10_asks_36 : decode cX10_asks 36 = .ok (.istore 4, 2) := by decide +kernel
theorem dX10_asks_38 : decode cX10_asks 38 = .ok (.iload 4, 2) := by decide +kernel
theorem dX10_asks_40 : decode cX10_asks 40 = .ok (.iconst (-1), 1) := by decide +kernel
theorem dX10_asks_41 : decode cX10_asks 41 = .ok (.if_icmp .eq 28, 3) := by decide +kernel
theorem dX10_asks_44 : decode cX10_asks 44 = .ok (.aload_n 0, 1) := by decide +kernel
theorem dX10_asks_45 : decode cX10_asks 45 = .ok (.getfield 42, 3) := by decide +kernel
theorem dX10_asks_48 : decode cX10_asks 48 = .ok (.iload_n 3, 1) := by decide +kernel
theorem dX10_asks_49 : decode cX10_asks 49 = .ok (.dup2, 1) := by decide +kernel
theorem dX10_asks_50 : decode cX10_asks 50 = .ok (.iaload, 1) := by decide +kernel
theorem dX10_asks_51 : decode cX10_asks 51 = .ok (.iconst 1, 1) := by decide +kernel
theorem dX10_asks_52 : decode cX10_asks 52 = .ok (.iadd, 1) := by decide +kernel
theorem dX10_asks_53 : decode cX10_asks 53 = .ok (.iastore, 1) := by decide +kernel
theorem dX10_asks_54 : decode cX10_asks 54 = .ok (.iload_n 2, 1) := by decide +kernel
theorem dX10_asks_55 : decode cX10_asks 55 = .ok (.iconst 1, 1) := by decide +kernel
theorem dX10_asks_56 : decode cX10_asks 56 = .ok (.iload_n 3, 1) := by decide +kernel
theorem dX10_asks_57 : decode cX10_asks 57 = .ok (.iconst 1, 1) := by decide +kernel
theorem dX10_asks_58 : decode cX10_asks 58 = .ok (.isub, 1) := by decide +kernel
theorem dX10_asks_59 : decode cX10_asks 59 = .ok (.ishl, 1) := by decide +kernel
theorem dX10_asks_60 : decode cX10_asks 60 = .ok (.ior, 1) := by decide +kernel
theorem dX10_asks_61 : decode cX10_asks 61 = .ok (.istore_n 2, 1) := by decide +kernel
theorem dX10_asks_62 : decode cX10_asks 62 = .ok (.aload_n 0, 1) := by decide +kernel
theorem dX10_asks_63 : decode cX10_asks 63 = .ok (.iload_n 3, 1) := by decide +kernel
theorem dX10_asks_64 : decode cX10_asks 64 = .ok (.iload 4, 2) := by decide +kernel
theorem dX10_asks_66 : decode cX10_asks 66 = .ok (.invokevirtual 133, 3) := by decide +kernel
theorem dX10_asks_69 : decode cX10_asks 69 = .ok (.aload_n 0, 1) := by decide +kernel
theorem dX10_asks_70 : decode cX10_asks 70 = .ok (.getfield 36, 3) := by decide +kernel
theorem dX10_asks_73 : decode cX10_asks 73 = .ok (.bipush 9, 2) := by decide +kernel
theorem dX10_asks_75 : decode cX10_asks 75 = .ok (.iload_n 3, 1) := by decide +kernel
theorem dX10_asks_76 : decode cX10_asks 76 = .ok (.imul, 1) := by decide +kernel
theorem dX10_asks_77 : decode cX10_asks 77 = .ok (.aload_n 0, 1) := by decide +kernel
theorem dX10_asks_78 : decode cX10_asks 78 = .ok (.getfield 39, 3) := by decide +kernel
theorem dX10_asks_81 : decode cX10_asks 81 = .ok (.iload_n 3, 1) := by decide +kernel
theorem dX10_asks_82 : decode cX10_asks 82 = .ok (.iaload, 1) := by decide +kernel
theorem dX10_asks_83 : decode cX10_asks 83 = .ok (.iadd, 1) := by decide +kernel
theorem dX10_asks_84 : decode cX10_asks 84 = .ok (.iload_n 1, 1) := by decide +kernel
theorem dX10_asks_85 : decode cX10_asks 85 = .ok (.iastore, 1) := by decide +kernel
theorem dX10_asks_86 : decode cX10_asks 86 = .ok (.aload_n 0, 1) := by decide +kernel
theorem dX10_asks_87 : decode cX10_asks 87 = .ok (.getfield 39, 3) := by decide +kernel
theorem dX10_asks_90 : decode cX10_asks 90 = .ok (.iload_n 3, 1) := by decide +kernel
theorem dX10_asks_91 : decode cX10_asks 91 = .ok (.dup2, 1) := by decide +kernel
theorem dX10_asks_92 : decode cX10_asks 92 = .ok (.iaload, 1) := by decide +kernel
theorem dX10_asks_93 : decode cX10_asks 93 = .ok (.iconst 1, 1) := by decide +kernel
theorem dX10_asks_94 : decode cX10_asks 94 = .ok (.iadd, 1) := by decide +kernel
theorem dX10_asks_95 : decode cX10_asks 95 = .ok (.iastore, 1) := by decide +kernel
theorem dX10_asks_96 : decode cX10_asks 96 = .ok (.aload_n 0, 1) := by decide +kernel
theorem dX10_asks_97 : decode cX10_asks 97 = .ok (.getfield 39, 3) := by decide +kernel
theorem dX10_asks_100 : decode cX10_asks 100 = .ok (.iload_n 3, 1) := by decide +kernel
theorem dX10_asks_101 : decode cX10_asks 101 = .ok (.iaload, 1) := by decide +kernel
theorem dX10_asks_102 : decode cX10_asks 102 = .ok (.iload_n 3, 1) := by decide +kernel
theorem dX10_asks_103 : decode cX10_asks 103 = .ok (.if_icmp .le 9, 3) := by decide +kernel
theorem dX10_asks_106 : decode cX10_asks 106 = .ok (.aload_n 0, 1) := by decide +kernel
theorem dX10_asks_107 : decode cX10_asks 107 = .ok (.iload_n 3, 1) := by decide +kernel
theorem dX10_asks_108 : decode cX10_asks 108 = .ok (.iconst 0, 1) := by decide +kernel
theorem dX10_asks_109 : decode cX10_asks 109 = .ok (.invokevirtual 133, 3) := by decide +kernel
theorem dX10_asks_112 : decode cX10_asks 112 = .ok (.iinc 3 1, 3) := by decide +kernel
theorem dX10_asks_115 : decode cX10_asks 115 = .ok (.goto (-91), 3) := by decide +kernel
theorem dX10_asks_118 : decode cX10_asks 118 = .ok (.iload_n 2, 1) := by decide +kernel
theorem dX10_asks_119 : decode cX10_asks 119 = .ok (.ireturn, 1) := by decide +kernel
theorem dX10_request_0 : decode cX10_request 0 = .ok (.aload_n 0, 1) := by decide +kernel
theorem dX10_request_1 : decode cX10_request 1 = .ok (.iconst 0, 1) := by decide +kernel
theorem dX10_request_2 : decode cX10_request 2 = .ok (.putfield 1, 3) := by decide +kernel
theorem dX10_request_5 : decode cX10_request 5 = .ok (.aload_n 0, 1) := by decide +kernel
theorem dX10_request_6 : decode cX10_request 6 = .ok (.iload_n 1, 1) := by decide +kernel
theorem dX10_request_7 : decode cX10_request 7 = .ok (.iconst 0, 1) := by decide +kernel
theorem dX10_request_8 : decode cX10_request 8 = .ok (.bipush 99, 2) := by decide +kernel
theorem dX10_request_10 : decode cX10_request 10 = .ok (.invokestatic 84, 3) := by decide +kernel
theorem dX10_request_13 : decode cX10_request 13 = .ok (.iconst 1, 1) := by decide +kernel
theorem dX10_request_14 : decode cX10_request 14 = .ok (.invokevirtual 88, 3) := by decide +kernel
theorem dX10_request_17 : decode cX10_request 17 = .ok (.ifCond .ne 26, 3) := by decide +kernel
theorem dX10_request_20 : decode cX10_request 20 = .ok (.aload_n 0, 1) := by decide +kernel
theorem dX10_request_21 : decode cX10_request 21 = .ok (.aload_n 0, 1) := by decide +kernel
theorem dX10_request_22 : decode cX10_request 22 = .ok (.getfield 127, 3) := by decide +kernel
theorem dX10_request_25 : decode cX10_request 25 = .ok (.sipush 1000, 3) := by decide +kernel
theorem dX10_request_28 : decode cX10_request 28 = .ok (.if_icmp .ge 7, 3) := by decide +kernel
theorem dX10_request_31 : decode cX10_request 31 = .ok (.iconst 1, 1) := by decide +kernel
theorem dX10_request_32 : decode cX10_request 32 = .ok (.goto 4, 3) := by decide +kernel
theorem dX10_request_35 : decode cX10_request 35 = .ok (.iconst 0, 1) := by decide +kernel
theorem dX10_request_36 : decode cX10_request 36 = .ok (.iconst 2, 1) := by decide +kernel
theorem dX10_request_37 : decode cX10_request 37 = .ok (.invokevirtual 88, 3) := by decide +kernel
theorem dX10_request_40 : decode cX10_request 40 = .ok (.ifCond .eq 7, 3) := by decide +kernel
theorem dX10_request_43 : decode cX10_request 43 = .ok (.iconst 0, 1) := by decide +kernel
theorem dX10_request_44 : decode cX10_request 44 = .ok (.goto 8, 3) := by decide +kernel
theorem dX10_request_47 : decode cX10_request 47 = .ok (.aload_n 0, 1) := by decide +kernel
theorem dX10_request_48 : decode cX10_request 48 = .ok (.iload_n 1, 1) := by decide +kernel
theorem dX10_request_49 : decode cX10_request 49 = .ok (.invokevirtual 137, 3) := by decide +kernel
theorem dX10_request_52 : decode cX10_request 52 = .ok (.ireturn, 1) := by decide +kernel
theorem dX10_clearCaches_0 : decode cX10_clearCaches 0 = .ok (.aload_n 0, 1) := by decide +kernel
theorem dX10_clearCaches_1 : decode cX10_clearCaches 1 = .ok (.iconst 0, 1) := by decide +kernel
theorem dX10_clearCaches_2 : decode cX10_clearCaches 2 = .ok (.putfield 1, 3) := by decide +kernel
theorem dX10_clearCaches_5 : decode cX10_clearCaches 5 = .ok (.aload_n 0, 1) := by decide +kernel
theorem dX10_clearCaches_6 : decode cX10_clearCaches 6 = .ok (.getfield 127, 3) := by decide +kernel
theorem dX10_clearCaches_9 : decode cX10_clearCaches 9 = .ok (.istore_n 1, 1) := by decide +kernel
theorem dX10_clearCaches_10 : decode cX10_clearCaches 10 = .ok (.aload_n 0, 1) := by decide +kernel
theorem dX10_clearCaches_11 : decode cX10_clearCaches 11 = .ok (.iconst 0, 1) := by decide +kernel
theorem dX10_clearCaches_12 : decode cX10_clearCaches 12 = .ok (.putfield 127, 3) := by decide +kernel
theorem dX10_clearCaches_15 : decode cX10_clearCaches 15 = .ok (.iconst 1, 1) := by decide +kernel
theorem dX10_clearCaches_16 : decode cX10_clearCaches 16 = .ok (.istore_n 2, 1) := by decide +kernel
theorem dX10_clearCaches_17 : decode cX10_clearCaches 17 = .ok (.iload_n 2, 1) := by decide +kernel
theorem dX10_clearCaches_18 : decode cX10_clearCaches 18 = .ok (.bipush 8, 2) := by decide +kernel
theorem dX10_clearCaches_20 : decode cX10_clearCaches 20 = .ok (.if_icmp .gt 23, 3) := by decide +kernel
theorem dX10_clearCaches_23 : decode cX10_clearCaches 23 = .ok (.aload_n 0, 1) := by decide +kernel
theorem dX10_clearCaches_24 : decode cX10_clearCaches 24 = .ok (.getfield 39, 3) := by decide +kernel
theorem dX10_clearCaches_27 : decode cX10_clearCaches 27 = .ok (.iload_n 2, 1) := by decide +kernel
theorem dX10_clearCaches_28 : decode cX10_clearCaches 28 = .ok (.iconst 0, 1) := by decide +kernel
theorem dX10_clearCaches_29 : decode cX10_clearCaches 29 = .ok (.iastore, 1) := by decide +kernel
theorem dX10_clearCaches_30 : decode cX10_clearCaches 30 = .ok (.aload_n 0, 1) := by decide +kernel
theorem dX10_clearCaches_31 : decode cX10_clearCaches 31 = .ok (.getfield 42, 3) := by decide +kernel
theorem dX10_clearCaches_34 : decode cX10_clearCaches 34 = .ok (.iload_n 2, 1) := by decide +kernel
theorem dX10_clearCaches_35 : decode cX10_clearCaches 35 = .ok (.iconst 0, 1) := by decide +kernel
theorem dX10_clearCaches_36 : decode cX10_clearCaches 36 = .ok (.iastore, 1) := by decide +kernel
theorem dX10_clearCaches_37 : decode cX10_clearCaches 37 = .ok (.iinc 2 1, 3) := by decide +kernel
theorem dX10_clearCaches_40 : decode cX10_clearCaches 40 = .ok (.goto (-23), 3) := by decide +kernel
theorem dX10_clearCaches_43 : decode cX10_clearCaches 43 = .ok (.iload_n 1, 1) := by decide +kernel
theorem dX10_clearCaches_44 : decode cX10_clearCaches 44 = .ok (.ireturn, 1) := by decide +kernel
theorem dX10_hits_0 : decode cX10_hits 0 = .ok (.aload_n 0, 1) := by decide +kernel
theorem dX10_hits_1 : decode cX10_hits 1 = .ok (.iconst 0, 1) := by decide +kernel
theorem dX10_hits_2 : decode cX10_hits 2 = .ok (.putfield 1, 3) := by decide +kernel
theorem dX10_hits_5 : decode cX10_hits 5 = .ok (.aload_n 0, 1) := by decide +kernel
theorem dX10_hits_6 : decode cX10_hits 6 = .ok (.iload_n 1, 1) := by decide +kernel
theorem dX10_hits_7 : decode cX10_hits 7 = .ok (.invokevirtual 141, 3) := by decide +kernel
theorem dX10_hits_10 : decode cX10_hits 10 = .ok (.ifCond .eq 7, 3) := by decide +kernel
theorem dX10_hits_13 : decode cX10_hits 13 = .ok (.iconst 0, 1) := by decide +kernel
theorem dX10_hits_14 : decode cX10_hits 14 = .ok (.goto 9, 3) := by decide +kernel
theorem dX10_hits_17 : decode cX10_hits 17 = .ok (.aload_n 0, 1) := by decide +kernel
theorem dX10_hits_18 : decode cX10_hits 18 = .ok (.getfield 42, 3) := by decide +kernel
theorem dX10_hits_21 : decode cX10_hits 21 = .ok (.iload_n 1, 1) := by decide +kernel
theorem dX10_hits_22 : decode cX10_hits 22 = .ok (.iaload, 1) := by decide +kernel
theorem dX10_hits_23 : decode cX10_hits 23 = .ok (.ireturn, 1) := by decide +kernel
theorem dX10_cached_0 : decode cX10_cached 0 = .ok (.aload_n 0, 1) := by decide +kernel
theorem dX10_cached_1 : decode cX10_cached 1 = .ok (.iconst 0, 1) := by decide +kernel
theorem dX10_cached_2 : decode cX10_cached 2 = .ok (.putfield 1, 3) := by decide +kernel
theorem dX10_cached_5 : decode cX10_cached 5 = .ok (.aload_n 0, 1) := by decide +kernel
theorem dX10_cached_6 : decode cX10_cached 6 = .ok (.iload_n 1, 1) := by decide +kernel
theorem dX10_cached_7 : decode cX10_cached 7 = .ok (.invokevirtual 141, 3) := by decide +kernel
theorem dX10_cached_10 : decode cX10_cached 10 = .ok (.ifCond .eq 7, 3) := by decide +kernel
theorem dX10_cached_13 : decode cX10_cached 13 = .ok (.iconst 0, 1) := by decide +kernel
theorem dX10_cached_14 : decode cX10_cached 14 = .ok (.goto 9, 3) := by decide +kernel
theorem dX10_cached_17 : decode cX10_cached 17 = .ok (.aload_n 0, 1) := by decide +kernel
theorem dX10_cached_18 : decode cX10_cached 18 = .ok (.getfield 39, 3) := by decide +kernel
theorem dX10_cached_21 : decode cX10_cached 21 = .ok (.iload_n 1, 1) := by decide +kernel
theorem dX10_cached_22 : decode cX10_cached 22 = .ok (.iaload, 1) := by decide +kernel
theorem dX10_cached_23 : decode cX10_cached 23 = .ok (.ireturn, 1) := by decide +kernel
theorem dX10_isCached_0 : decode cX10_isCached 0 = .ok (.aload_n 0, 1) := by decide +kernel
theorem dX10_isCached_1 : decode cX10_isCached 1 = .ok (.iconst 0, 1) := by decide +kernel
theorem dX10_isCached_2 : decode cX10_isCached 2 = .ok (.putfield 1, 3) := by decide +kernel
theorem dX10_isCached_5 : decode cX10_isCached 5 = .ok (.aload_n 0, 1) := by decide +kernel
theorem dX10_isCached_6 : decode cX10_isCached 6 = .ok (.iload_n 1, 1) := by decide +kernel
theorem dX10_isCached_7 : decode cX10_isCached 7 = .ok (.invokevirtual 141, 3) := by decide +kernel
theorem dX10_isCached_10 : decode cX10_isCached 10 = .ok (.ifCond .ne 32, 3) := by decide +kernel
theorem dX10_isCached_13 : decode cX10_isCached 13 = .ok (.aload_n 0, 1) := by decide +kernel
theorem dX10_isCached_14 : decode cX10_isCached 14 = .ok (.iload_n 2, 1) := by decide +kernel
theorem dX10_isCached_15 : decode cX10_isCached 15 = .ok (.iconst 0, 1) := by decide +kernel
theorem dX10_isCached_16 : decode cX10_isCached 16 = .ok (.bipush 99, 2) := by decide +kernel
theorem dX10_isCached_18 : decode cX10_isCached 18 = .ok (.invokestatic 84, 3) := by decide +kernel
theorem dX10_isCached_21 : decode cX10_isCached 21 = .ok (.iconst 1, 1) := by decide +kernel
theorem dX10_isCached_22 : decode cX10_isCached 22 = .ok (.invokevirtual 88, 3) := by decide +kernel
theorem dX10_isCached_25 : decode cX10_isCached 25 = .ok (.ifCond .ne 17, 3) := by decide +kernel
theorem dX10_isCached_28 : decode cX10_isCached 28 = .ok (.aload_n 0, 1) := by decide +kernel
theorem dX10_isCached_29 : decode cX10_isCached 29 = .ok (.iload_n 1, 1) := by decide +kernel
theorem dX10_isCached_30 : decode cX10_isCached 30 = .ok (.iload_n 2, 1) := by decide +kernel
theorem dX10_isCached_31 : decode cX10_isCached 31 = .ok (.invokevirtual 130, 3) := by decide +kernel
theorem dX10_isCached_34 : decode cX10_isCached 34 = .ok (.iconst (-1), 1) := by decide +kernel
theorem dX10_isCached_35 : decode cX10_isCached 35 = .ok (.if_icmp .eq 7, 3) := by decide +kernel
theorem dX10_isCached_38 : decode cX10_isCached 38 = .ok (.iconst 1, 1) := by decide +kernel
theorem dX10_isCached_39 : decode cX10_isCached 39 = .ok (.goto 4, 3) := by decide +kernel
theorem dX10_isCached_42 : decode cX10_isCached 42 = .ok (.iconst 0, 1) := by decide +kernel
theorem dX10_isCached_43 : decode cX10_isCached 43 = .ok (.ireturn, 1) := by decide +kernel
theorem dX10_cachedAt_0 : decode cX10_cachedAt 0 = .ok (.aload_n 0, 1) := by decide +kernel
theorem dX10_cachedAt_1 : decode cX10_cachedAt 1 = .ok (.iconst 0, 1) := by decide +kernel
theorem dX10_cachedAt_2 : decode cX10_cachedAt 2 = .ok (.putfield 1, 3) := by decide +kernel
theorem dX10_cachedAt_5 : decode cX10_cachedAt 5 = .ok (.aload_n 0, 1) := by decide +kernel
theorem dX10_cachedAt_6 : decode cX10_cachedAt 6 = .ok (.iload_n 1, 1) := by decide +kernel
theorem dX10_cachedAt_7 : decode cX10_cachedAt 7 = .ok (.invokevirtual 141, 3) := by decide +kernel
theorem dX10_cachedAt_10 : decode cX10_cachedAt 10 = .ok (.ifCond .ne 24, 3) := by decide +kernel
theorem dX10_cachedAt_13 : decode cX10_cachedAt 13 = .ok (.aload_n 0, 1) := by decide +kernel
theorem dX10_cachedAt_14 : decode cX10_cachedAt 14 = .ok (.iload_n 2, 1) := by decide +kernel
theorem dX10_cachedAt_15 : decode cX10_cachedAt 15 = .ok (.iconst 0, 1) := by decide +kernel
theorem dX10_cachedAt_16 : decode cX10_cachedAt 16 = .ok (.aload_n 0, 1) := by decide +kernel
theorem dX10_cachedAt_17 : decode cX10_cachedAt 17 = .ok (.getfield 39, 3) := by decide +kernel
theorem dX10_cachedAt_20 : decode cX10_cachedAt 20 = .ok (.iload_n 1, 1) := by decide +kernel
theorem dX10_cachedAt_21 : decode cX10_cachedAt 21 = .ok (.iaload, 1) := by decide +kernel
theorem dX10_cachedAt_22 : decode cX10_cachedAt 22 = .ok (.iconst 1, 1) := by decide +kernel
theorem dX10_cachedAt_23 : decode cX10_cachedAt 23 = .ok (.isub, 1) := by decide +kernel
theorem dX10_cachedAt_24 : decode cX10_cachedAt 24 = .ok (.invokestatic 84, 3) := by decide +kernel
theorem dX10_cachedAt_27 : decode cX10_cachedAt 27 = .ok (.iconst 2, 1) := by decide +kernel
theorem dX10_cachedAt_28 : decode cX10_cachedAt 28 = .ok (.invokevirtual 88, 3) := by decide +kernel
theorem dX10_cachedAt_31 : decode cX10_cachedAt 31 = .ok (.ifCond .eq 7, 3) := by decide +kernel
theorem dX10_cachedAt_34 : decode cX10_cachedAt 34 = .ok (.iconst 0, 1) := by decide +kernel
theorem dX10_cachedAt_35 : decode cX10_cachedAt 35 = .ok (.goto 14, 3) := by decide +kernel
theorem dX10_cachedAt_38 : decode cX10_cachedAt 38 = .ok (.aload_n 0, 1) := by decide +kernel
theorem dX10_cachedAt_39 : decode cX10_cachedAt 39 = .ok (.getfield 36, 3) := by decide +kernel
theorem dX10_cachedAt_42 : decode cX10_cachedAt 42 = .ok (.bipush 9, 2) := by decide +kernel
theorem dX10_cachedAt_44 : decode cX10_cachedAt 44 = .ok (.iload_n 1, 1) := by decide +kernel
theorem dX10_cachedAt_45 : decode cX10_cachedAt 45 = .ok (.imul, 1) := by decide +kernel
theorem dX10_cachedAt_46 : decode cX10_cachedAt 46 = .ok (.iload_n 2, 1) := by decide +kernel
theorem dX10_cachedAt_47 : decode cX10_cachedAt 47 = .ok (.iadd, 1) := by decide +kernel
theorem dX10_cachedAt_48 : decode cX10_cachedAt 48 = .ok (.iaload, 1) := by decide +kernel
theorem dX10_cachedAt_49 : decode cX10_cachedAt 49 = .ok (.ireturn, 1) := by decide +kernel
theorem dX10_requests_0 : decode cX10_requests 0 = .ok (.aload_n 0, 1) := by decide +kernel
theorem dX10_requests_1 : decode cX10_requests 1 = .ok (.iconst 0, 1) := by decide +kernel
theorem dX10_requests_2 : decode cX10_requests 2 = .ok (.putfield 1, 3) := by decide +kernel
theorem dX10_requests_5 : decode cX10_requests 5 = .ok (.aload_n 0, 1) := by decide +kernel
theorem dX10_requests_6 : decode cX10_requests 6 = .ok (.getfield 127, 3) := by decide +kernel
theorem dX10_requests_9 : decode cX10_requests 9 = .ok (.ireturn, 1) := by decide +kernel
theorem dX10_noRequest_0 : decode cX10_noRequest 0 = .ok (.aload_n 0, 1) := by decide +kernel
theorem dX10_noRequest_1 : decode cX10_noRequest 1 = .ok (.iload_n 1, 1) := by decide +kernel
theorem dX10_noRequest_2 : decode cX10_noRequest 2 = .ok (.iconst 0, 1) := by decide +kernel
theorem dX10_noRequest_3 : decode cX10_noRequest 3 = .ok (.aload_n 0, 1) := by decide +kernel
theorem dX10_noRequest_4 : decode cX10_noRequest 4 = .ok (.getfield 127, 3) := by decide +kernel
theorem dX10_noRequest_7 : decode cX10_noRequest 7 = .ok (.iconst 1, 1) := by decide +kernel
theorem dX10_noRequest_8 : decode cX10_noRequest 8 = .ok (.isub, 1) := by decide +kernel
theorem dX10_noRequest_9 : decode cX10_noRequest 9 = .ok (.invokestatic 84, 3) := by decide +kernel
theorem dX10_noRequest_12 : decode cX10_noRequest 12 = .ok (.iconst 1, 1) := by decide +kernel
theorem dX10_noRequest_13 : decode cX10_noRequest 13 = .ok (.invokevirtual 88, 3) := by decide +kernel
theorem dX10_noRequest_16 : decode cX10_noRequest 16 = .ok (.ireturn, 1) := by decide +kernel
theorem dX10_requestAt_0 : decode cX10_requestAt 0 = .ok (.aload_n 0, 1) := by decide +kernel
theorem dX10_requestAt_1 : decode cX10_requestAt 1 = .ok (.iconst 0, 1) := by decide +kernel
theorem dX10_requestAt_2 : decode cX10_requestAt 2 = .ok (.putfield 1, 3) := by decide +kernel
theorem dX10_requestAt_5 : decode cX10_requestAt 5 = .ok (.aload_n 0, 1) := by decide +kernel
theorem dX10_requestAt_6 : decode cX10_requestAt 6 = .ok (.iload_n 1, 1) := by decide +kernel
theorem dX10_requestAt_7 : decode cX10_requestAt 7 = .ok (.invokevirtual 144, 3) := by decide +kernel
theorem dX10_requestAt_10 : decode cX10_requestAt 10 = .ok (.ifCond .eq 7, 3) := by decide +kernel
theorem dX10_requestAt_13 : decode cX10_requestAt 13 = .ok (.iconst 0, 1) := by decide +kernel
theorem dX10_requestAt_14 : decode cX10_requestAt 14 = .ok (.goto 9, 3) := by decide +kernel
theorem dX10_requestAt_17 : decode cX10_requestAt 17 = .ok (.aload_n 0, 1) := by decide +kernel
theorem dX10_requestAt_18 : decode cX10_requestAt 18 = .ok (.getfield 45, 3) := by decide +kernel
theorem dX10_requestAt_21 : decode cX10_requestAt 21 = .ok (.iload_n 1, 1) := by decide +kernel
theorem dX10_requestAt_22 : decode cX10_requestAt 22 = .ok (.iaload, 1) := by decide +kernel
theorem dX10_requestAt_23 : decode cX10_requestAt 23 = .ok (.ireturn, 1) := by decide +kernel
theorem dX10_distance_0 : decode cX10_distance 0 = .ok (.iconst 0, 1) := by decide +kernel
theorem dX10_distance_1 : decode cX10_distance 1 = .ok (.istore_n 2, 1) := by decide +kernel
theorem dX10_distance_2 : decode cX10_distance 2 = .ok (.iload_n 2, 1) := by decide +kernel
theorem dX10_distance_3 : decode cX10_distance 3 = .ok (.bipush 100, 2) := by decide +kernel
theorem dX10_distance_5 : decode cX10_distance 5 = .ok (.if_icmp .ge 16, 3) := by decide +kernel
theorem dX10_distance_8 : decode cX10_distance 8 = .ok (.aload_n 0, 1) := by decide +kernel
theorem dX10_distance_9 : decode cX10_distance 9 = .ok (.getfield 48, 3) := by decide +kernel
theorem dX10_distance_12 : decode cX10_distance 12 = .ok (.iload_n 2, 1) := by decide +kernel
theorem dX10_distance_13 : decode cX10_distance 13 = .ok (.iconst 0, 1) := by decide +kernel
theorem dX10_distance_14 : decode cX10_distance 14 = .ok (.bastore, 1) := by decide +kernel
theorem dX10_distance_15 : decode cX10_distance 15 = .ok (.iinc 2 1, 3) := by decide +kernel
theorem dX10_distance_18 : decode cX10_distance 18 = .ok (.goto (-16), 3) := by decide +kernel
theorem dX10_distance_21 : decode cX10_distance 21 = .ok (.iconst 0, 1) := by decide +kernel
theorem dX10_distance_22 : decode cX10_distance 22 = .ok (.istore_n 2, 1) := by decide +kernel
theorem dX10_distance_23 : decode cX10_distance 23 = .ok (.iload_n 1, 1) := by decide +kernel
theorem dX10_distance_24 : decode cX10_distance 24 = .ok (.iconst 1, 1) := by decide +kernel
theorem dX10_distance_25 : decode cX10_distance 25 = .ok (.isub, 1) := by decide +kernel
theorem dX10_distance_26 : decode cX10_distance 26 = .ok (.istore_n 3, 1) := by decide +kernel
theorem dX10_distance_27 : decode cX10_distance 27 = .ok (.iload_n 3, 1) := by decide +kernel
theorem dX10_distance_28 : decode cX10_distance 28 = .ok (.ifCond .lt 60, 3) := by decide +kernel
theorem dX10_distance_31 : decode cX10_distance 31 = .ok (.aload_n 0, 1) := by decide +kernel
theorem dX10_distance_32 : decode cX10_distance 32 = .ok (.getfield 45, 3) := by decide +kernel
theorem dX10_distance_35 : decode cX10_distance 35 = .ok (.iload_n 3, 1) := by decide +kernel
theorem dX10_distance_36 : decode cX10_distance 36 = .ok (.iaload, 1) := by decide +kernel
theorem dX10_distance_37 : decode cX10_distance 37 = .ok (.aload_n 0, 1) := by decide +kernel
theorem dX10_distance_38 : decode cX10_distance 38 = .ok (.getfield 45, 3) := by decide +kernel
theorem dX10_distance_41 : decode cX10_distance 41 = .ok (.iload_n 1, 1) := by decide +kernel
theorem dX10_distance_42 : decode cX10_distance 42 = .ok (.iaload, 1) := by decide +kernel
theorem dX10_distance_43 : decode cX10_distance 43 = .ok (.if_icmp .ne 5, 3) := by decide +kernel
theorem dX10_distance_46 : decode cX10_distance 46 = .ok (.iload_n 2, 1) := by decide +kernel
theorem dX10_distance_47 : decode cX10_distance 47 = .ok (.ireturn, 1) := by decide +kernel
theorem dX10_distance_48 : decode cX10_distance 48 = .ok (.iload_n 2, 1) := by decide +kernel
theorem dX10_distance_49 : decode cX10_distance 49 = .ok (.aload_n 0, 1) := by decide +kernel
theorem dX10_distance_50 : decode cX10_distance 50 = .ok (.getfield 48, 3) := by decide +kernel
theorem dX10_distance_53 : decode cX10_distance 53 = .ok (.aload_n 0, 1) := by decide +kernel
theorem dX10_distance_54 : decode cX10_distance 54 = .ok (.getfield 45, 3) := by decide +kernel
theorem dX10_distance_57 : decode cX10_distance 57 = .ok (.iload_n 3, 1) := by decide +kernel
theorem dX10_distance_58 : decode cX10_distance 58 = .ok (.iaload, 1) := by decide +kernel
theorem dX10_distance_59 : decode cX10_distance 59 = .ok (.baload, 1) := by decide +kernel
theorem dX10_distance_60 : decode cX10_distance 60 = .ok (.ifCond .eq 7, 3) := by decide +kernel
theorem dX10_distance_63 : decode cX10_distance 63 = .ok (.iconst 0, 1) := by decide +kernel
theorem dX10_distance_64 : decode cX10_distance 64 = .ok (.goto 4, 3) := by decide +kernel
theorem dX10_distance_67 : decode cX10_distance 67 = .ok (.iconst 1, 1) := by decide +kernel
theorem dX10_distance_68 : decode cX10_distance 68 = .ok (.iadd, 1) := by decide +kernel
theorem dX10_distance_69 : decode cX10_distance 69 = .ok (.istore_n 2, 1) := by decide +kernel
theorem dX10_distance_70 : decode cX10_distance 70 = .ok (.aload_n 0, 1) := by decide +kernel
theorem dX10_distance_71 : decode cX10_distance 71 = .ok (.getfield 48, 3) := by decide +kernel
theorem dX10_distance_74 : decode cX10_distance 74 = .ok (.aload_n 0, 1) := by decide +kernel
theorem dX10_distance_75 : decode cX10_distance 75 = .ok (.getfield 45, 3) := by decide +kernel
theorem dX10_distance_78 : decode cX10_distance 78 = .ok (.iload_n 3, 1) := by decide +kernel
theorem dX10_distance_79 : decode cX10_distance 79 = .ok (.iaload, 1) := by decide +kernel
theorem dX10_distance_80 : decode cX10_distance 80 = .ok (.iconst 1, 1) := by decide +kernel
theorem dX10_distance_81 : decode cX10_distance 81 = .ok (.bastore, 1) := by decide +kernel
theorem dX10_distance_82 : decode cX10_distance 82 = .ok (.iinc 3 (-1), 3) := by decide +kernel
theorem dX10_distance_85 : decode cX10_distance 85 = .ok (.goto (-58), 3) := by decide +kernel
theorem dX10_distance_88 : decode cX10_distance 88 = .ok (.iconst (-1), 1) := by decide +kernel
theorem dX10_distance_89 : decode cX10_distance 89 = .ok (.ireturn, 1) := by decide +kernel
theorem dX10_distanceOf_0 : decode cX10_distanceOf 0 = .ok (.aload_n 0, 1) := by decide +kernel
theorem dX10_distanceOf_1 : decode cX10_distanceOf 1 = .ok (.iconst 0, 1) := by decide +kernel
theorem dX10_distanceOf_2 : decode cX10_distanceOf 2 = .ok (.putfield 1, 3) := by decide +kernel
theorem dX10_distanceOf_5 : decode cX10_distanceOf 5 = .ok (.aload_n 0, 1) := by decide +kernel
theorem dX10_distanceOf_6 : decode cX10_distanceOf 6 = .ok (.iload_n 1, 1) := by decide +kernel
theorem dX10_distanceOf_7 : decode cX10_distanceOf 7 = .ok (.invokevirtual 144, 3) := by decide +kernel
theorem dX10_distanceOf_10 : decode cX10_distanceOf 10 = .ok (.ifCond .eq 7, 3) := by decide +kernel
theorem dX10_distanceOf_13 : decode cX10_distanceOf 13 = .ok (.iconst 0, 1) := by decide +kernel
theorem dX10_distanceOf_14 : decode cX10_distanceOf 14 = .ok (.goto 8, 3) := by decide +kernel
theorem dX10_distanceOf_17 : decode cX10_distanceOf 17 = .ok (.aload_n 0, 1) := by decide +kernel
theorem dX10_distanceOf_18 : decode cX10_distanceOf 18 = .ok (.iload_n 1, 1) := by decide +kernel
theorem dX10_distanceOf_19 : decode cX10_distanceOf 19 = .ok (.invokevirtual 147, 3) := by decide +kernel
theorem dX10_distanceOf_22 : decode cX10_distanceOf 22 = .ok (.ireturn, 1) := by decide +kernel
theorem dX10_nearerThan_0 : decode cX10_nearerThan 0 = .ok (.iconst 0, 1) := by decide +kernel
theorem dX10_nearerThan_1 : decode cX10_nearerThan 1 = .ok (.istore_n 2, 1) := by decide +kernel
theorem dX10_nearerThan_2 : decode cX10_nearerThan 2 = .ok (.iconst 0, 1) := by decide +kernel
theorem dX10_nearerThan_3 : decode cX10_nearerThan 3 = .ok (.istore_n 3, 1) := by decide +kernel
theorem dX10_nearerThan_4 : decode cX10_nearerThan 4 = .ok (.iload_n 3, 1) := by decide +kernel
theorem dX10_nearerThan_5 : decode cX10_nearerThan 5 = .ok (.aload_n 0, 1) := by decide +kernel
theorem dX10_nearerThan_6 : decode cX10_nearerThan 6 = .ok (.getfield 127, 3) := by decide +kernel
theorem dX10_nearerThan_9 : decode cX10_nearerThan 9 = .ok (.if_icmp .ge 36, 3) := by decide +kernel
theorem dX10_nearerThan_12 : decode cX10_nearerThan 12 = .ok (.aload_n 0, 1) := by decide +kernel
theorem dX10_nearerThan_13 : decode cX10_nearerThan 13 = .ok (.iload_n 3, 1) := by decide +kernel
theorem dX10_nearerThan_14 : decode cX10_nearerThan 14 = .ok (.invokevirtual 147, 3) := by decide +kernel
theorem dX10_nearerThan_17 : decode cX10_nearerThan 17 = .ok (.istore 4, 2) := by decide +kernel
theorem dX10_nearerThan_19 : decode cX10_nearerThan 19 = .ok (.iload_n 2, 1) := by decide +kernel
theorem dX10_nearerThan_20 : decode cX10_nearerThan 20 = .ok (.iload 4, 2) := by decide +kernel
theorem dX10_nearerThan_22 : decode cX10_nearerThan 22 = .ok (.iconst (-1), 1) := by decide +kernel
theorem dX10_nearerThan_23 : decode cX10_nearerThan 23 = .ok (.if_icmp .eq 13, 3) := by decide +kernel
theorem dX10_nearerThan_26 : decode cX10_nearerThan 26 = .ok (.iload 4, 2) := by decide +kernel
theorem dX10_nearerThan_28 : decode cX10_nearerThan 28 = .ok (.iload_n 1, 1) := by decide +kernel
theorem dX10_nearerThan_29 : decode cX10_nearerThan 29 = .ok (.if_icmp .ge 7, 3) := by decide +kernel
theorem dX10_nearerThan_32 : decode cX10_nearerThan 32 = .ok (.iconst 1, 1) := by decide +kernel
theorem dX10_nearerThan_33 : decode cX10_nearerThan 33 = .ok (.goto 4, 3) := by decide +kernel
theorem dX10_nearerThan_36 : decode cX10_nearerThan 36 = .ok (.iconst 0, 1) := by decide +kernel
theorem dX10_nearerThan_37 : decode cX10_nearerThan 37 = .ok (.iadd, 1) := by decide +kernel
theorem dX10_nearerThan_38 : decode cX10_nearerThan 38 = .ok (.istore_n 2, 1) := by decide +kernel
theorem dX10_nearerThan_39 : decode cX10_nearerThan 39 = .ok (.iinc 3 1, 3) := by decide +kernel
theorem dX10_nearerThan_42 : decode cX10_nearerThan 42 = .ok (.goto (-38), 3) := by decide +kernel
theorem dX10_nearerThan_45 : decode cX10_nearerThan 45 = .ok (.iload_n 2, 1) := by decide +kernel
theorem dX10_nearerThan_46 : decode cX10_nearerThan 46 = .ok (.ireturn, 1) := by decide +kernel
theorem dX10_nearer_0 : decode cX10_nearer 0 = .ok (.aload_n 0, 1) := by decide +kernel
theorem dX10_nearer_1 : decode cX10_nearer 1 = .ok (.iconst 0, 1) := by decide +kernel
theorem dX10_nearer_2 : decode cX10_nearer 2 = .ok (.putfield 1, 3) := by decide +kernel
theorem dX10_nearer_5 : decode cX10_nearer 5 = .ok (.aload_n 0, 1) := by decide +kernel
theorem dX10_nearer_6 : decode cX10_nearer 6 = .ok (.iload_n 1, 1) := by decide +kernel
theorem dX10_nearer_7 : decode cX10_nearer 7 = .ok (.iconst 0, 1) := by decide +kernel
theorem dX10_nearer_8 : decode cX10_nearer 8 = .ok (.bipush 100, 2) := by decide +kernel
theorem dX10_nearer_10 : decode cX10_nearer 10 = .ok (.invokestatic 84, 3) := by decide +kernel
theorem dX10_nearer_13 : decode cX10_nearer 13 = .ok (.iconst 1, 1) := by decide +kernel
theorem dX10_nearer_14 : decode cX10_nearer 14 = .ok (.invokevirtual 88, 3) := by decide +kernel
theorem dX10_nearer_17 : decode cX10_nearer 17 = .ok (.ifCond .eq 7, 3) := by decide +kernel
theorem dX10_nearer_20 : decode cX10_nearer 20 = .ok (.iconst 0, 1) := by decide +kernel
theorem dX10_nearer_21 : decode cX10_nearer 21 = .ok (.goto 8, 3) := by decide +kernel
theorem dX10_nearer_24 : decode cX10_nearer 24 = .ok (.aload_n 0, 1) := by decide +kernel
theorem dX10_nearer_25 : decode cX10_nearer 25 = .ok (.iload_n 1, 1) := by decide +kernel
theorem dX10_nearer_26 : decode cX10_nearer 26 = .ok (.invokevirtual 150, 3) := by decide +kernel
theorem dX10_nearer_29 : decode cX10_nearer 29 = .ok (.ireturn, 1) := by decide +kernel
theorem dX10_leastCache_0 : decode cX10_leastCache 0 = .ok (.aload_n 0, 1) := by decide +kernel
theorem dX10_leastCache_1 : decode cX10_leastCache 1 = .ok (.iconst 0, 1) := by decide +kernel
theorem dX10_leastCache_2 : decode cX10_leastCache 2 = .ok (.putfield 1, 3) := by decide +kernel
theorem dX10_leastCache_5 : decode cX10_leastCache 5 = .ok (.aload_n 0, 1) := by decide +kernel
theorem dX10_leastCache_6 : decode cX10_leastCache 6 = .ok (.iload_n 1, 1) := by decide +kernel
theorem dX10_leastCache_7 : decode cX10_leastCache 7 = .ok (.ifCond .lt 7, 3) := by decide +kernel
theorem dX10_leastCache_10 : decode cX10_leastCache 10 = .ok (.iconst 1, 1) := by decide +kernel
theorem dX10_leastCache_11 : decode cX10_leastCache 11 = .ok (.goto 4, 3) := by decide +kernel
theorem dX10_leastCache_14 : decode cX10_leastCache 14 = .ok (.iconst 0, 1) := by decide +kernel
theorem dX10_leastCache_15 : decode cX10_leastCache 15 = .ok (.iconst 1, 1) := by decide +kernel
theorem dX10_leastCache_16 : decode cX10_leastCache 16 = .ok (.invokevirtual 88, 3) := by decide +kernel
theorem dX10_leastCache_19 : decode cX10_leastCache 19 = .ok (.ifCond .eq 5, 3) := by decide +kernel
theorem dX10_leastCache_22 : decode cX10_leastCache 22 = .ok (.iconst 0, 1) := by decide +kernel
theorem dX10_leastCache_23 : decode cX10_leastCache 23 = .ok (.ireturn, 1) := by decide +kernel
theorem dX10_leastCache_24 : decode cX10_leastCache 24 = .ok (.iconst 1, 1) := by decide +kernel
theorem dX10_leastCache_25 : decode cX10_leastCache 25 = .ok (.istore_n 2, 1) := by decide +kernel
theorem dX10_leastCache_26 : decode cX10_leastCache 26 = .ok (.iload_n 2, 1) := by decide +kernel
theorem dX10_leastCache_27 : decode cX10_leastCache 27 = .ok (.bipush 8, 2) := by decide +kernel
theorem dX10_leastCache_29 : decode cX10_leastCache 29 = .ok (.if_icmp .gt 21, 3) := by decide +kernel
theorem dX10_leastCache_32 : decode cX10_leastCache 32 = .ok (.aload_n 0, 1) := by decide +kernel
theorem dX10_leastCache_33 : decode cX10_leastCache 33 = .ok (.getfield 42, 3) := by decide +kernel
theorem dX10_leastCache_36 : decode cX10_leastCache 36 = .ok (.iload_n 2, 1) := by decide +kernel
theorem dX10_leastCache_37 : decode cX10_leastCache 37 = .ok (.iaload, 1) := by decide +kernel
theorem dX10_leastCache_38 : decode cX10_leastCache 38 = .ok (.iload_n 1, 1) := by decide +kernel
theorem dX10_leastCache_39 : decode cX10_leastCache 39 = .ok (.if_icmp .lt 5, 3) := by decide +kernel
theorem dX10_leastCache_42 : decode cX10_leastCache 42 = .ok (.iload_n 2, 1) := by decide +kernel
theorem dX10_leastCache_43 : decode cX10_leastCache 43 = .ok (.ireturn, 1) := by decide +kernel
theorem dX10_leastCache_44 : decode cX10_leastCache 44 = .ok (.iinc 2 1, 3) := by decide +kernel
theorem dX10_leastCache_47 : decode cX10_leastCache 47 = .ok (.goto (-21), 3) := by decide +kernel
theorem dX10_leastCache_50 : decode cX10_leastCache 50 = .ok (.iconst (-1), 1) := by decide +kernel
theorem dX10_leastCache_51 : decode cX10_leastCache 51 = .ok (.ireturn, 1) := by decide +kernel
theorem dX10_bytesIn_0 : decode cX10_bytesIn 0 = .ok (.iconst 0, 1) := by decide +kernel
theorem dX10_bytesIn_1 : decode cX10_bytesIn 1 = .ok (.istore_n 1, 1) := by decide +kernel
theorem dX10_bytesIn_2 : decode cX10_bytesIn 2 = .ok (.iconst 0, 1) := by decide +kernel
theorem dX10_bytesIn_3 : decode cX10_bytesIn 3 = .ok (.istore_n 2, 1) := by decide +kernel
theorem dX10_bytesIn_4 : decode cX10_bytesIn 4 = .ok (.iload_n 2, 1) := by decide +kernel
theorem dX10_bytesIn_5 : decode cX10_bytesIn 5 = .ok (.bipush 32, 2) := by decide +kernel
theorem dX10_bytesIn_7 : decode cX10_bytesIn 7 = .ok (.if_icmp .ge 27, 3) := by decide +kernel
theorem dX10_bytesIn_10 : decode cX10_bytesIn 10 = .ok (.iload_n 1, 1) := by decide +kernel
theorem dX10_bytesIn_11 : decode cX10_bytesIn 11 = .ok (.iload_n 0, 1) := by decide +kernel
theorem dX10_bytesIn_12 : decode cX10_bytesIn 12 = .ok (.iload_n 2, 1) := by decide +kernel
theorem dX10_bytesIn_13 : decode cX10_bytesIn 13 = .ok (.ishr, 1) := by decide +kernel
theorem dX10_bytesIn_14 : decode cX10_bytesIn 14 = .ok (.sipush 255, 3) := by decide +kernel
theorem dX10_bytesIn_17 : decode cX10_bytesIn 17 = .ok (.iand, 1) := by decide +kernel
theorem dX10_bytesIn_18 : decode cX10_bytesIn 18 = .ok (.ifCond .ne 7, 3) := by decide +kernel
theorem dX10_bytesIn_21 : decode cX10_bytesIn 21 = .ok (.iconst 0, 1) := by decide +kernel
theorem dX10_bytesIn_22 : decode cX10_bytesIn 22 = .ok (.goto 4, 3) := by decide +kernel
theorem dX10_bytesIn_25 : decode cX10_bytesIn 25 = .ok (.iconst 1, 1) := by decide +kernel
theorem dX10_bytesIn_26 : decode cX10_bytesIn 26 = .ok (.iadd, 1) := by decide +kernel
theorem dX10_bytesIn_27 : decode cX10_bytesIn 27 = .ok (.istore_n 1, 1) := by decide +kernel
theorem dX10_bytesIn_28 : decode cX10_bytesIn 28 = .ok (.iinc 2 8, 3) := by decide +kernel
theorem dX10_bytesIn_31 : decode cX10_bytesIn 31 = .ok (.goto (-27), 3) := by decide +kernel
theorem dX10_bytesIn_34 : decode cX10_bytesIn 34 = .ok (.iload_n 1, 1) := by decide +kernel
theorem dX10_bytesIn_35 : decode cX10_bytesIn 35 = .ok (.ireturn, 1) := by decide +kernel
theorem dX10_takesBytes_0 : decode cX10_takesBytes 0 = .ok (.bipush 24, 2) := by decide +kernel
theorem dX10_takesBytes_2 : decode cX10_takesBytes 2 = .ok (.istore_n 2, 1) := by decide +kernel
theorem dX10_takesBytes_3 : decode cX10_takesBytes 3 = .ok (.iload_n 2, 1) := by decide +kernel
theorem dX10_takesBytes_4 : decode cX10_takesBytes 4 = .ok (.ifCond .lt 44, 3) := by decide +kernel
theorem dX10_takesBytes_7 : decode cX10_takesBytes 7 = .ok (.iload_n 1, 1) := by decide +kernel
theorem dX10_takesBytes_8 : decode cX10_takesBytes 8 = .ok (.iload_n 2, 1) := by decide +kernel
theorem dX10_takesBytes_9 : decode cX10_takesBytes 9 = .ok (.ishr, 1) := by decide +kernel
theorem dX10_takesBytes_10 : decode cX10_takesBytes 10 = .ok (.sipush 255, 3) := by decide +kernel
theorem dX10_takesBytes_13 : decode cX10_takesBytes 13 = .ok (.iand, 1) := by decide +kernel
theorem dX10_takesBytes_14 : decode cX10_takesBytes 14 = .ok (.istore_n 3, 1) := by decide +kernel
theorem dX10_takesBytes_15 : decode cX10_takesBytes 15 = .ok (.iload_n 3, 1) := by decide +kernel
theorem dX10_takesBytes_16 : decode cX10_takesBytes 16 = .ok (.ifCond .ne 6, 3) := by decide +kernel
theorem dX10_takesBytes_19 : decode cX10_takesBytes 19 = .ok (.goto 23, 3) := by decide +kernel
theorem dX10_takesBytes_22 : decode cX10_takesBytes 22 = .ok (.aload_n 0, 1) := by decide +kernel
theorem dX10_takesBytes_23 : decode cX10_takesBytes 23 = .ok (.getfield 51, 3) := by decide +kernel
theorem dX10_takesBytes_26 : decode cX10_takesBytes 26 = .ok (.aload_n 0, 1) := by decide +kernel
theorem dX10_takesBytes_27 : decode cX10_takesBytes 27 = .ok (.getfield 153, 3) := by decide +kernel
theorem dX10_takesBytes_30 : decode cX10_takesBytes 30 = .ok (.iload_n 3, 1) := by decide +kernel
theorem dX10_takesBytes_31 : decode cX10_takesBytes 31 = .ok (.iastore, 1) := by decide +kernel
theorem dX10_takesBytes_32 : decode cX10_takesBytes 32 = .ok (.aload_n 0, 1) := by decide +kernel
theorem dX10_takesBytes_33 : decode cX10_takesBytes 33 = .ok (.dup, 1) := by decide +kernel
theorem dX10_takesBytes_34 : decode cX10_takesBytes 34 = .ok (.getfield 153, 3) := by decide +kernel
theorem dX10_takesBytes_37 : decode cX10_takesBytes 37 = .ok (.iconst 1, 1) := by decide +kernel
theorem dX10_takesBytes_38 : decode cX10_takesBytes 38 = .ok (.iadd, 1) := by decide +kernel
theorem dX10_takesBytes_39 : decode cX10_takesBytes 39 = .ok (.putfield 153, 3) := by decide +kernel
theorem dX10_takesBytes_42 : decode cX10_takesBytes 42 = .ok (.iinc 2 (-8), 3) := by decide +kernel
theorem dX10_takesBytes_45 : decode cX10_takesBytes 45 = .ok (.goto (-42), 3) := by decide +kernel
theorem dX10_takesBytes_48 : decode cX10_takesBytes 48 = .ok (.return_, 1) := by decide +kernel
theorem dX10_append_0 : decode cX10_append 0 = .ok (.aload_n 0, 1) := by decide +kernel
theorem dX10_append_1 : decode cX10_append 1 = .ok (.iconst 0, 1) := by decide +kernel
theorem dX10_append_2 : decode cX10_append 2 = .ok (.putfield 1, 3) := by decide +kernel
theorem dX10_append_5 : decode cX10_append 5 = .ok (.iload_n 1, 1) := by decide +kernel
theorem dX10_append_6 : decode cX10_append 6 = .ok (.invokestatic 156, 3) := by decide +kernel
theorem dX10_append_9 : decode cX10_append 9 = .ok (.iload_n 2, 1) := by decide +kernel
theorem dX10_append_10 : decode cX10_append 10 = .ok (.invokestatic 156, 3) := by decide +kernel
theorem dX10_append_13 : decode cX10_append 13 = .ok (.iadd, 1) := by decide +kernel
theorem dX10_append_14 : decode cX10_append 14 = .ok (.iload_n 3, 1) := by decide +kernel
theorem dX10_append_15 : decode cX10_append 15 = .ok (.invokestatic 156, 3) := by decide +kernel
theorem dX10_append_18 : decode cX10_append 18 = .ok (.iadd, 1) := by decide +kernel
theorem dX10_append_19 : decode cX10_append 19 = .ok (.iload 4, 2) := by decide +kernel
theorem dX10_append_21 : decode cX10_append 21 = .ok (.invokestatic 156, 3) := by decide +kernel
theorem dX10_append_24 : decode cX10_append 24 = .ok (.iadd, 1) := by decide +kernel
theorem dX10_append_25 : decode cX10_append 25 = .ok (.iload 5, 2) := by decide +kernel
theorem dX10_append_27 : decode cX10_append 27 = .ok (.invokestatic 156, 3) := by decide +kernel
theorem dX10_append_30 : decode cX10_append 30 = .ok (.iadd, 1) := by decide +kernel
theorem dX10_append_31 : decode cX10_append 31 = .ok (.istore 6, 2) := by decide +kernel
theorem dX10_append_33 : decode cX10_append 33 = .ok (.aload_n 0, 1) := by decide +kernel
theorem dX10_append_34 : decode cX10_append 34 = .ok (.aload_n 0, 1) := by decide +kernel
theorem dX10_append_35 : decode cX10_append 35 = .ok (.getfield 153, 3) := by decide +kernel
theorem dX10_append_38 : decode cX10_append 38 = .ok (.iload 6, 2) := by decide +kernel
theorem dX10_append_40 : decode cX10_append 40 = .ok (.iadd, 1) := by decide +kernel
theorem dX10_append_41 : decode cX10_append 41 = .ok (.sipush 300, 3) := by decide +kernel
theorem dX10_append_44 : decode cX10_append 44 = .ok (.if_icmp .gt 7, 3) := by decide +kernel
theorem dX10_append_47 : decode cX10_append 47 = .ok (.iconst 1, 1) := by decide +kernel
theorem dX10_append_48 : decode cX10_append 48 = .ok (.goto 4, 3) := by decide +kernel
theorem dX10_append_51 : decode cX10_append 51 = .ok (.iconst 0, 1) := by decide +kernel
theorem dX10_append_52 : decode cX10_append 52 = .ok (.iconst 1, 1) := by decide +kernel
theorem dX10_append_53 : decode cX10_append 53 = .ok (.invokevirtual 88, 3) := by decide +kernel
theorem dX10_append_56 : decode cX10_append 56 = .ok (.ifCond .eq 5, 3) := by decide +kernel
theorem dX10_append_59 : decode cX10_append 59 = .ok (.iconst 0, 1) := by decide +kernel
theorem dX10_append_60 : decode cX10_append 60 = .ok (.ireturn, 1) := by decide +kernel
theorem dX10_append_61 : decode cX10_append 61 = .ok (.aload_n 0, 1) := by decide +kernel
theorem dX10_append_62 : decode cX10_append 62 = .ok (.iload_n 1, 1) := by decide +kernel
theorem dX10_append_63 : decode cX10_append 63 = .ok (.invokevirtual 159, 3) := by decide +kernel
theorem dX10_append_66 : decode cX10_append 66 = .ok (.aload_n 0, 1) := by decide +kernel
theorem dX10_append_67 : decode cX10_append 67 = .ok (.iload_n 2, 1) := by decide +kernel
theorem dX10_append_68 : decode cX10_append 68 = .ok (.invokevirtual 159, 3) := by decide +kernel
theorem dX10_append_71 : decode cX10_append 71 = .ok (.aload_n 0, 1) := by decide +kernel
theorem dX10_append_72 : decode cX10_append 72 = .ok (.iload_n 3, 1) := by decide +kernel
theorem dX10_append_73 : decode cX10_append 73 = .ok (.invokevirtual 159, 3) := by decide +kernel
theorem dX10_append_76 : decode cX10_append 76 = .ok (.aload_n 0, 1) := by decide +kernel
theorem dX10_append_77 : decode cX10_append 77 = .ok (.iload 4, 2) := by decide +kernel
theorem dX10_append_79 : decode cX10_append 79 = .ok (.invokevirtual 159, 3) := by decide +kernel
theorem dX10_append_82 : decode cX10_append 82 = .ok (.aload_n 0, 1) := by decide +kernel
theorem dX10_append_83 : decode cX10_append 83 = .ok (.iload 5, 2) := by decide +kernel
theorem dX10_append_85 : decode cX10_append 85 = .ok (.invokevirtual 159, 3) := by decide +kernel
theorem dX10_append_88 : decode cX10_append 88 = .ok (.aload_n 0, 1) := by decide +kernel
theorem dX10_append_89 : decode cX10_append 89 = .ok (.getfield 153, 3) := by decide +kernel
theorem dX10_append_92 : decode cX10_append 92 = .ok (.ireturn, 1) := by decide +kernel
theorem dX10_clearTape_0 : decode cX10_clearTape 0 = .ok (.aload_n 0, 1) := by decide +kernel
theorem dX10_clearTape_1 : decode cX10_clearTape 1 = .ok (.iconst 0, 1) := by decide +kernel
theorem dX10_clearTape_2 : decode cX10_clearTape 2 = .ok (.putfield 1, 3) := by decide +kernel
theorem dX10_clearTape_5 : decode cX10_clearTape 5 = .ok (.aload_n 0, 1) := by decide +kernel
theorem dX10_clearTape_6 : decode cX10_clearTape 6 = .ok (.getfield 153, 3) := by decide +kernel
theorem dX10_clearTape_9 : decode cX10_clearTape 9 = .ok (.istore_n 1, 1) := by decide +kernel
theorem dX10_clearTape_10 : decode cX10_clearTape 10 = .ok (.aload_n 0, 1) := by decide +kernel
theorem dX10_clearTape_11 : decode cX10_clearTape 11 = .ok (.iconst 0, 1) := by decide +kernel
theorem dX10_clearTape_12 : decode cX10_clearTape 12 = .ok (.putfield 153, 3) := by decide +kernel
theorem dX10_clearTape_15 : decode cX10_clearTape 15 = .ok (.iload_n 1, 1) := by decide +kernel
theorem dX10_clearTape_16 : decode cX10_clearTape 16 = .ok (.ireturn, 1) := by decide +kernel
theorem dX10_isSign_0 : decode cX10_isSign 0 = .ok (.iload_n 0, 1) := by decide +kernel
theorem dX10_isSign_1 : decode cX10_isSign 1 = .ok (.bipush 108, 2) := by decide +kernel
theorem dX10_isSign_3 : decode cX10_isSign 3 = .ok (.if_icmp .eq 45, 3) := by decide +kernel
theorem dX10_isSign_6 : decode cX10_isSign 6 = .ok (.iload_n 0, 1) := by decide +kernel
theorem dX10_isSign_7 : decode cX10_isSign 7 = .ok (.bipush 115, 2) := by decide +kernel
theorem dX10_isSign_9 : decode cX10_isSign 9 = .ok (.if_icmp .eq 39, 3) := by decide +kernel
theorem dX10_isSign_12 : decode cX10_isSign 12 = .ok (.iload_n 0, 1) := by decide +kernel
theorem dX10_isSign_13 : decode cX10_isSign 13 = .ok (.bipush 97, 2) := by decide +kernel
theorem dX10_isSign_15 : decode cX10_isSign 15 = .ok (.if_icmp .eq 33, 3) := by decide +kernel
theorem dX10_isSign_18 : decode cX10_isSign 18 = .ok (.iload_n 0, 1) := by decide +kernel
theorem dX10_isSign_19 : decode cX10_isSign 19 = .ok (.bipush 99, 2) := by decide +kernel
theorem dX10_isSign_21 : decode cX10_isSign 21 = .ok (.if_icmp .eq 27, 3) := by decide +kernel
theorem dX10_isSign_24 : decode cX10_isSign 24 = .ok (.iload_n 0, 1) := by decide +kernel
theorem dX10_isSign_25 : decode cX10_isSign 25 = .ok (.bipush 120, 2) := by decide +kernel
theorem dX10_isSign_27 : decode cX10_isSign 27 = .ok (.if_icmp .eq 21, 3) := by decide +kernel
theorem dX10_isSign_30 : decode cX10_isSign 30 = .ok (.iload_n 0, 1) := by decide +kernel
theorem dX10_isSign_31 : decode cX10_isSign 31 = .ok (.bipush 59, 2) := by decide +kernel
theorem dX10_isSign_33 : decode cX10_isSign 33 = .ok (.if_icmp .eq 15, 3) := by decide +kernel
theorem dX10_isSign_36 : decode cX10_isSign 36 = .ok (.iload_n 0, 1) := by decide +kernel
theorem dX10_isSign_37 : decode cX10_isSign 37 = .ok (.bipush 123, 2) := by decide +kernel
theorem dX10_isSign_39 : decode cX10_isSign 39 = .ok (.if_icmp .eq 9, 3) := by decide +kernel
theorem dX10_isSign_42 : decode cX10_isSign 42 = .ok (.iload_n 0, 1) := by decide +kernel
theorem dX10_isSign_43 : decode cX10_isSign 43 = .ok (.bipush 125, 2) := by decide +kernel
theorem dX10_isSign_45 : decode cX10_isSign 45 = .ok (.if_icmp .ne 7, 3) := by decide +kernel
theorem dX10_isSign_48 : decode cX10_isSign 48 = .ok (.iconst 1, 1) := by decide +kernel
theorem dX10_isSign_49 : decode cX10_isSign 49 = .ok (.goto 4, 3) := by decide +kernel
theorem dX10_isSign_52 : decode cX10_isSign 52 = .ok (.iconst 0, 1) := by decide +kernel
theorem dX10_isSign_53 : decode cX10_isSign 53 = .ok (.ireturn, 1) := by decide +kernel
theorem dX10_reads_0 : decode cX10_reads 0 = .ok (.aload_n 0, 1) := by decide +kernel
theorem dX10_reads_1 : decode cX10_reads 1 = .ok (.getfield 162, 3) := by decide +kernel
theorem dX10_reads_4 : decode cX10_reads 4 = .ok (.aload_n 0, 1) := by decide +kernel
theorem dX10_reads_5 : decode cX10_reads 5 = .ok (.getfield 153, 3) := by decide +kernel
theorem dX10_reads_8 : decode cX10_reads 8 = .ok (.if_icmp .ge 44, 3) := by decide +kernel
theorem dX10_reads_11 : decode cX10_reads 11 = .ok (.aload_n 0, 1) := by decide +kernel
theorem dX10_reads_12 : decode cX10_reads 12 = .ok (.getfield 51, 3) := by decide +kernel
theorem dX10_reads_15 : decode cX10_reads 15 = .ok (.aload_n 0, 1) := by decide +kernel
theorem dX10_reads_16 : decode cX10_reads 16 = .ok (.getfield 162, 3) := by decide +kernel
theorem dX10_reads_19 : decode cX10_reads 19 = .ok (.iaload, 1) := by decide +kernel
theorem dX10_reads_20 : decode cX10_reads 20 = .ok (.bipush 32, 2) := by decide +kernel
theorem dX10_reads_22 : decode cX10_reads 22 = .ok (.if_icmp .eq 17, 3) := by decide +kernel
theorem dX10_reads_25 : decode cX10_reads 25 = .ok (.aload_n 0, 1) := by decide +kernel
theorem dX10_reads_26 : decode cX10_reads 26 = .ok (.getfield 51, 3) := by decide +kernel
theorem dX10_reads_29 : decode cX10_reads 29 = .ok (.aload_n 0, 1) := by decide +kernel
theorem dX10_reads_30 : decode cX10_reads 30 = .ok (.getfield 162, 3) := by decide +kernel
theorem dX10_reads_33 : decode cX10_reads 33 = .ok (.iaload, 1) := by decide +kernel
theorem dX10_reads_34 : decode cX10_reads 34 = .ok (.bipush 10, 2) := by decide +kernel
theorem dX10_reads_36 : decode cX10_reads 36 = .ok (.if_icmp .ne 16, 3) := by decide +kernel
theorem dX10_reads_39 : decode cX10_reads 39 = .ok (.aload_n 0, 1) := by decide +kernel
theorem dX10_reads_40 : decode cX10_reads 40 = .ok (.dup, 1) := by decide +kernel
theorem dX10_reads_41 : decode cX10_reads 41 = .ok (.getfield 162, 3) := by decide +kernel
theorem dX10_reads_44 : decode cX10_reads 44 = .ok (.iconst 1, 1) := by decide +kernel
theorem dX10_reads_45 : decode cX10_reads 45 = .ok (.iadd, 1) := by decide +kernel
theorem dX10_reads_46 : decode cX10_reads 46 = .ok (.putfield 162, 3) := by decide +kernel
theorem dX10_reads_49 : decode cX10_reads 49 = .ok (.goto (-49), 3) := by decide +kernel
theorem dX10_reads_52 : decode cX10_reads 52 = .ok (.aload_n 0, 1) := by decide +kernel
theorem dX10_reads_53 : decode cX10_reads 53 = .ok (.aload_n 0, 1) := by decide +kernel
theorem dX10_reads_54 : decode cX10_reads 54 = .ok (.getfield 162, 3) := by decide +kernel
theorem dX10_reads_57 : decode cX10_reads 57 = .ok (.putfield 165, 3) := by decide +kernel
theorem dX10_reads_60 : decode cX10_reads 60 = .ok (.aload_n 0, 1) := by decide +kernel
theorem dX10_reads_61 : decode cX10_reads 61 = .ok (.iconst 0, 1) := by decide +kernel
theorem dX10_reads_62 : decode cX10_reads 62 = .ok (.putfield 168, 3) := by decide +kernel
theorem dX10_reads_65 : decode cX10_reads 65 = .ok (.aload_n 0, 1) := by decide +kernel
theorem dX10_reads_66 : decode cX10_reads 66 = .ok (.getfield 162, 3) := by decide +kernel
theorem dX10_reads_69 : decode cX10_reads 69 = .ok (.aload_n 0, 1) := by decide +kernel
theorem dX10_reads_70 : decode cX10_reads 70 = .ok (.getfield 153, 3) := by decide +kernel
theorem dX10_reads_73 : decode cX10_reads 73 = .ok (.if_icmp .ne 4, 3) := by decide +kernel
theorem dX10_reads_76 : decode cX10_reads 76 = .ok (.return_, 1) := by decide +kernel
theorem dX10_reads_77 : decode cX10_reads 77 = .ok (.aload_n 0, 1) := by decide +kernel
theorem dX10_reads_78 : decode cX10_reads 78 = .ok (.aload_n 0, 1) := by decide +kernel
theorem dX10_reads_79 : decode cX10_reads 79 = .ok (.getfield 51, 3) := by decide +kernel
theorem dX10_reads_82 : decode cX10_reads 82 = .ok (.aload_n 0, 1) := by decide +kernel
theorem dX10_reads_83 : decode cX10_reads 83 = .ok (.getfield 162, 3) := by decide +kernel
theorem dX10_reads_86 : decode cX10_reads 86 = .ok (.iaload, 1) := by decide +kernel
theorem dX10_reads_87 : decode cX10_reads 87 = .ok (.putfield 171, 3) := by decide +kernel
theorem dX10_reads_90 : decode cX10_reads 90 = .ok (.aload_n 0, 1) := by decide +kernel
theorem dX10_reads_91 : decode cX10_reads 91 = .ok (.aload_n 0, 1) := by decide +kernel
theorem dX10_reads_92 : decode cX10_reads 92 = .ok (.getfield 171, 3) := by decide +kernel
theorem dX10_reads_95 : decode cX10_reads 95 = .ok (.invokestatic 174, 3) := by decide +kernel
theorem dX10_reads_98 : decode cX10_reads 98 = .ok (.ifCond .eq 7, 3) := by decide +kernel
theorem dX10_reads_101 : decode cX10_reads 101 = .ok (.iconst 1, 1) := by decide +kernel
theorem dX10_reads_102 : decode cX10_reads 102 = .ok (.goto 4, 3) := by decide +kernel
theorem dX10_reads_105 : decode cX10_reads 105 = .ok (.iconst 3, 1) := by decide +kernel
theorem dX10_reads_106 : decode cX10_reads 106 = .ok (.putfield 168, 3) := by decide +kernel
theorem dX10_reads_109 : decode cX10_reads 109 = .ok (.aload_n 0, 1) := by decide +kernel
theorem dX10_reads_110 : decode cX10_reads 110 = .ok (.getfield 171, 3) := by decide +kernel
theorem dX10_reads_113 : decode cX10_reads 113 = .ok (.bipush 48, 2) := by decide +kernel
theorem dX10_reads_115 : decode cX10_reads 115 = .ok (.bipush 57, 2) := by decide +kernel
theorem dX10_reads_117 : decode cX10_reads 117 = .ok (.invokestatic 84, 3) := by decide +kernel
theorem dX10_reads_120 : decode cX10_reads 120 = .ok (.ifCond .ne 14, 3) := by decide +kernel
theorem dX10_reads_123 : decode cX10_reads 123 = .ok (.aload_n 0, 1) := by decide +kernel
theorem dX10_reads_124 : decode cX10_reads 124 = .ok (.dup, 1) := by decide +kernel
theorem dX10_reads_125 : decode cX10_reads 125 = .ok (.getfield 162, 3) := by decide +kernel
theorem dX10_reads_128 : decode cX10_reads 128 = .ok (.iconst 1, 1) := by decide +kernel
theorem dX10_reads_129 : decode cX10_reads 129 = .ok (.iadd, 1) := by decide +kernel
theorem dX10_reads_130 : decode cX10_reads 130 = .ok (.putfield 162, 3) := by decide +kernel
theorem dX10_reads_133 : decode cX10_reads 133 = .ok (.return_, 1) := by decide +kernel
theorem dX10_reads_134 : decode cX10_reads 134 = .ok (.iconst 0, 1) := by decide +kernel
theorem dX10_reads_135 : decode cX10_reads 135 = .ok (.istore_n 1, 1) := by decide +kernel
theorem dX10_reads_136 : decode cX10_reads 136 = .ok (.aload_n 0, 1) := by decide +kernel
theorem dX10_reads_137 : decode cX10_reads 137 = .ok (.iconst 0, 1) := by decide +kernel
theorem dX10_reads_138 : decode cX10_reads 138 = .ok (.putfield 171, 3) := by decide +kernel
theorem dX10_reads_141 : decode cX10_reads 141 = .ok (.aload_n 0, 1) := by decide +kernel
theorem dX10_reads_142 : decode cX10_reads 142 = .ok (.getfield 162, 3) := by decide +kernel
theorem dX10_reads_145 : decode cX10_reads 145 = .ok (.aload_n 0, 1) := by decide +kernel
theorem dX10_reads_146 : decode cX10_reads 146 = .ok (.getfield 153, 3) := by decide +kernel
theorem dX10_reads_149 : decode cX10_reads 149 = .ok (.if_icmp .ge 67, 3) := by decide +kernel
theorem dX10_reads_152 : decode cX10_reads 152 = .ok (.aload_n 0, 1) := by decide +kernel
theorem dX10_reads_153 : decode cX10_reads 153 = .ok (.getfield 51, 3) := by decide +kernel
theorem dX10_reads_156 : decode cX10_reads 156 = .ok (.aload_n 0, 1) := by decide +kernel
theorem dX10_reads_157 : decode cX10_reads 157 = .ok (.getfield 162, 3) := by decide +kernel
theorem dX10_reads_160 : decode cX10_reads 160 = .ok (.iaload, 1) := by decide +kernel
theorem dX10_reads_161 : decode cX10_reads 161 = .ok (.bipush 48, 2) := by decide +kernel
theorem dX10_reads_163 : decode cX10_reads 163 = .ok (.bipush 57, 2) := by decide +kernel
theorem dX10_reads_165 : decode cX10_reads 165 = .ok (.invokestatic 84, 3) := by decide +kernel
theorem dX10_reads_168 : decode cX10_reads 168 = .ok (.ifCond .eq 48, 3) := by decide +kernel
theorem dX10_reads_171 : decode cX10_reads 171 = .ok (.iload_n 1, 1) := by decide +kernel
theorem dX10_reads_172 : decode cX10_reads 172 = .ok (.iconst 3, 1) := by decide +kernel
theorem dX10_reads_173 : decode cX10_reads 173 = .ok (.if_icmp .ge 27, 3) := by decide +kernel
theorem dX10_reads_176 : decode cX10_reads 176 = .ok (.aload_n 0, 1) := by decide +kernel
theorem dX10_reads_177 : decode cX10_reads 177 = .ok (.bipush 10, 2) := by decide +kernel
theorem dX10_reads_179 : decode cX10_reads 179 = .ok (.aload_n 0, 1) := by decide +kernel
theorem dX10_reads_180 : decode cX10_reads 180 = .ok (.getfield 171, 3) := by decide +kernel
theorem dX10_reads_183 : decode cX10_reads 183 = .ok (.imul, 1) := by decide +kernel
theorem dX10_reads_184 : decode cX10_reads 184 = .ok (.aload_n 0, 1) := by decide +kernel
theorem dX10_reads_185 : decode cX10_reads 185 = .ok (.getfield 51, 3) := by decide +kernel
theorem dX10_reads_188 : decode cX10_reads 188 = .ok (.aload_n 0, 1) := by decide +kernel
theorem dX10_reads_189 : decode cX10_reads 189 = .ok (.getfield 162, 3) := by decide +kernel
theorem dX10_reads_192 : decode cX10_reads 192 = .ok (.iaload, 1) := by decide +kernel
theorem dX10_reads_193 : decode cX10_reads 193 = .ok (.iadd, 1) := by decide +kernel
theorem dX10_reads_194 : decode cX10_reads 194 = .ok (.bipush 48, 2) := by decide +kernel
theorem dX10_reads_196 : decode cX10_reads 196 = .ok (.isub, 1) := by decide +kernel
theorem dX10_reads_197 : decode cX10_reads 197 = .ok (.putfield 171, 3) := by decide +kernel
theorem dX10_reads_200 : decode cX10_reads 200 = .ok (.iinc 1 1, 3) := by decide +kernel
theorem dX10_reads_203 : decode cX10_reads 203 = .ok (.aload_n 0, 1) := by decide +kernel
theorem dX10_reads_204 : decode cX10_reads 204 = .ok (.dup, 1) := by decide +kernel
theorem dX10_reads_205 : decode cX10_reads 205 = .ok (.getfield 162, 3) := by decide +kernel
theorem dX10_reads_208 : decode cX10_reads 208 = .ok (.iconst 1, 1) := by decide +kernel
theorem dX10_reads_209 : decode cX10_reads 209 = .ok (.iadd, 1) := by decide +kernel
theorem dX10_reads_210 : decode cX10_reads 210 = .ok (.putfield 162, 3) := by decide +kernel
theorem dX10_reads_213 : decode cX10_reads 213 = .ok (.goto (-72), 3) := by decide +kernel
theorem dX10_reads_216 : decode cX10_reads 216 = .ok (.aload_n 0, 1) := by decide +kernel
theorem dX10_reads_217 : decode cX10_reads 217 = .ok (.iload_n 1, 1) := by decide +kernel
theorem dX10_reads_218 : decode cX10_reads 218 = .ok (.iconst 3, 1) := by decide +kernel
theorem dX10_reads_219 : decode cX10_reads 219 = .ok (.if_icmp .gt 7, 3) := by decide +kernel
theorem dX10_reads_222 : decode cX10_reads 222 = .ok (.iconst 2, 1) := by decide +kernel
theorem dX10_reads_223 : decode cX10_reads 223 = .ok (.goto 4, 3) := by decide +kernel
theorem dX10_reads_226 : decode cX10_reads 226 = .ok (.iconst 3, 1) := by decide +kernel
theorem dX10_reads_227 : decode cX10_reads 227 = .ok (.putfield 168, 3) := by decide +kernel
theorem dX10_reads_230 : decode cX10_reads 230 = .ok (.return_, 1) := by decide +kernel
theorem dX10_isSignNow_0 : decode cX10_isSignNow 0 = .ok (.aload_n 0, 1) := by decide +kernel
theorem dX10_isSignNow_1 : decode cX10_isSignNow 1 = .ok (.getfield 168, 3) := by decide +kernel
theorem dX10_isSignNow_4 : decode cX10_isSignNow 4 = .ok (.iconst 1, 1) := by decide +kernel
theorem dX10_isSignNow_5 : decode cX10_isSignNow 5 = .ok (.if_icmp .ne 15, 3) := by decide +kernel
theorem dX10_isSignNow_8 : decode cX10_isSignNow 8 = .ok (.aload_n 0, 1) := by decide +kernel
theorem dX10_isSignNow_9 : decode cX10_isSignNow 9 = .ok (.getfield 171, 3) := by decide +kernel
theorem dX10_isSignNow_12 : decode cX10_isSignNow 12 = .ok (.iload_n 1, 1) := by decide +kernel
theorem dX10_isSignNow_13 : decode cX10_isSignNow 13 = .ok (.if_icmp .ne 7, 3) := by decide +kernel
theorem dX10_isSignNow_16 : decode cX10_isSignNow 16 = .ok (.iconst 1, 1) := by decide +kernel
theorem dX10_isSignNow_17 : decode cX10_isSignNow 17 = .ok (.goto 4, 3) := by decide +kernel
theorem dX10_isSignNow_20 : decode cX10_isSignNow 20 = .ok (.iconst 0, 1) := by decide +kernel
theorem dX10_isSignNow_21 : decode cX10_isSignNow 21 = .ok (.ireturn, 1) := by decide +kernel
theorem dX10_takesNumber_0 : decode cX10_takesNumber 0 = .ok (.aload_n 0, 1) := by decide +kernel
theorem dX10_takesNumber_1 : decode cX10_takesNumber 1 = .ok (.getfield 168, 3) := by decide +kernel
theorem dX10_takesNumber_4 : decode cX10_takesNumber 4 = .ok (.iconst 2, 1) := by decide +kernel
theorem dX10_takesNumber_5 : decode cX10_takesNumber 5 = .ok (.if_icmp .ne 15, 3) := by decide +kernel
theorem dX10_takesNumber_8 : decode cX10_takesNumber 8 = .ok (.aload_n 0, 1) := by decide +kernel
theorem dX10_takesNumber_9 : decode cX10_takesNumber 9 = .ok (.getfield 171, 3) := by decide +kernel
theorem dX10_takesNumber_12 : decode cX10_takesNumber 12 = .ok (.iload_n 1, 1) := by decide +kernel
theorem dX10_takesNumber_13 : decode cX10_takesNumber 13 = .ok (.iload_n 2, 1) := by decide +kernel
theorem dX10_takesNumber_14 : decode cX10_takesNumber 14 = .ok (.invokestatic 84, 3) := by decide +kernel
theorem dX10_takesNumber_17 : decode cX10_takesNumber 17 = .ok (.ifCond .ne 5, 3) := by decide +kernel
theorem dX10_takesNumber_20 : decode cX10_takesNumber 20 = .ok (.iconst 0, 1) := by decide +kernel
theorem dX10_takesNumber_21 : decode cX10_takesNumber 21 = .ok (.ireturn, 1) := by decide +kernel
theorem dX10_takesNumber_22 : decode cX10_takesNumber 22 = .ok (.aload_n 0, 1) := by decide +kernel
theorem dX10_takesNumber_23 : decode cX10_takesNumber 23 = .ok (.getfield 57, 3) := by decide +kernel
theorem dX10_takesNumber_26 : decode cX10_takesNumber 26 = .ok (.aload_n 0, 1) := by decide +kernel
theorem dX10_takesNumber_27 : decode cX10_takesNumber 27 = .ok (.getfield 177, 3) := by decide +kernel
theorem dX10_takesNumber_30 : decode cX10_takesNumber 30 = .ok (.aload_n 0, 1) := by decide +kernel
theorem dX10_takesNumber_31 : decode cX10_takesNumber 31 = .ok (.getfield 171, 3) := by decide +kernel
theorem dX10_takesNumber_34 : decode cX10_takesNumber 34 = .ok (.iastore, 1) := by decide +kernel
theorem dX10_takesNumber_35 : decode cX10_takesNumber 35 = .ok (.aload_n 0, 1) := by decide +kernel
theorem dX10_takesNumber_36 : decode cX10_takesNumber 36 = .ok (.invokevirtual 180, 3) := by decide +kernel
theorem dX10_takesNumber_39 : decode cX10_takesNumber 39 = .ok (.iconst 1, 1) := by decide +kernel
theorem dX10_takesNumber_40 : decode cX10_takesNumber 40 = .ok (.ireturn, 1) := by decide +kernel
theorem dX10_readsItem_0 : decode cX10_readsItem 0 = .ok (.aload_n 0, 1) := by decide +kernel
theorem dX10_readsItem_1 : decode cX10_readsItem 1 = .ok (.getfield 171, 3) := by decide +kernel
theorem dX10_readsItem_4 : decode cX10_readsItem 4 = .ok (.istore_n 2, 1) := by decide +kernel
theorem dX10_readsItem_5 : decode cX10_readsItem 5 = .ok (.aload_n 0, 1) := by decide +kernel
theorem dX10_readsItem_6 : decode cX10_readsItem 6 = .ok (.getfield 168, 3) := by decide +kernel
theorem dX10_readsItem_9 : decode cX10_readsItem 9 = .ok (.iconst 1, 1) := by decide +kernel
theorem dX10_readsItem_10 : decode cX10_readsItem 10 = .ok (.if_icmp .ne 25, 3) := by decide +kernel
theorem dX10_readsItem_13 : decode cX10_readsItem 13 = .ok (.iload_n 2, 1) := by decide +kernel
theorem dX10_readsItem_14 : decode cX10_readsItem 14 = .ok (.bipush 59, 2) := by decide +kernel
theorem dX10_readsItem_16 : decode cX10_readsItem 16 = .ok (.if_icmp .eq 19, 3) := by decide +kernel
theorem dX10_readsItem_19 : decode cX10_readsItem 19 = .ok (.iload_n 2, 1) := by decide +kernel
theorem dX10_readsItem_20 : decode cX10_readsItem 20 = .ok (.bipush 123, 2) := by decide +kernel
theorem dX10_readsItem_22 : decode cX10_readsItem 22 = .ok (.if_icmp .eq 13, 3) := by decide +kernel
theorem dX10_readsItem_25 : decode cX10_readsItem 25 = .ok (.iload_n 2, 1) := by decide +kernel
theorem dX10_readsItem_26 : decode cX10_readsItem 26 = .ok (.bipush 125, 2) := by decide +kernel
theorem dX10_readsItem_28 : decode cX10_readsItem 28 = .ok (.if_icmp .eq 7, 3) := by decide +kernel
theorem dX10_readsItem_31 : decode cX10_readsItem 31 = .ok (.iconst 1, 1) := by decide +kernel
theorem dX10_readsItem_32 : decode cX10_readsItem 32 = .ok (.goto 4, 3) := by decide +kernel
theorem dX10_readsItem_35 : decode cX10_readsItem 35 = .ok (.iconst 0, 1) := by decide +kernel
theorem dX10_readsItem_36 : decode cX10_readsItem 36 = .ok (.istore_n 3, 1) := by decide +kernel
theorem dX10_readsItem_37 : decode cX10_readsItem 37 = .ok (.iload_n 3, 1) := by decide +kernel
theorem dX10_readsItem_38 : decode cX10_readsItem 38 = .ok (.ifCond .ne 5, 3) := by decide +kernel
theorem dX10_readsItem_41 : decode cX10_readsItem 41 = .ok (.iconst 0, 1) := by decide +kernel
theorem dX10_readsItem_42 : decode cX10_readsItem 42 = .ok (.ireturn, 1) := by decide +kernel
theorem dX10_readsItem_43 : decode cX10_readsItem 43 = .ok (.aload_n 0, 1) := by decide +kernel
theorem dX10_readsItem_44 : decode cX10_readsItem 44 = .ok (.invokevirtual 180, 3) := by decide +kernel
theorem dX10_readsItem_47 : decode cX10_readsItem 47 = .ok (.aload_n 0, 1) := by decide +kernel
theorem dX10_readsItem_48 : decode cX10_readsItem 48 = .ok (.iload_n 2, 1) := by decide +kernel
theorem dX10_readsItem_49 : decode cX10_readsItem 49 = .ok (.bipush 120, 2) := by decide +kernel
theorem dX10_readsItem_51 : decode cX10_readsItem 51 = .ok (.if_icmp .ne 7, 3) := by decide +kernel
theorem dX10_readsItem_54 : decode cX10_readsItem 54 = .ok (.iconst 1, 1) := by decide +kernel
theorem dX10_readsItem_55 : decode cX10_readsItem 55 = .ok (.goto 4, 3) := by decide +kernel
theorem dX10_readsItem_58 : decode cX10_readsItem 58 = .ok (.iconst 0, 1) := by decide +kernel
theorem dX10_readsItem_59 : decode cX10_readsItem 59 = .ok (.iload_n 2, 1) := by decide +kernel
theorem dX10_readsItem_60 : decode cX10_readsItem 60 = .ok (.bipush 120, 2) := by decide +kernel
theorem dX10_readsItem_62 : decode cX10_readsItem 62 = .ok (.if_icmp .ne 8, 3) := by decide +kernel
theorem dX10_readsItem_65 : decode cX10_readsItem 65 = .ok (.bipush 9, 2) := by decide +kernel
theorem dX10_readsItem_67 : decode cX10_readsItem 67 = .ok (.goto 17, 3) := by decide +kernel
theorem dX10_readsItem_70 : decode cX10_readsItem 70 = .ok (.iload_n 2, 1) := by decide +kernel
theorem dX10_readsItem_71 : decode cX10_readsItem 71 = .ok (.bipush 99, 2) := by decide +kernel
theorem dX10_readsItem_73 : decode cX10_readsItem 73 = .ok (.if_icmp .ne 9, 3) := by decide +kernel
theorem dX10_readsItem_76 : decode cX10_readsItem 76 = .ok (.sipush 999, 3) := by decide +kernel
theorem dX10_readsItem_79 : decode cX10_readsItem 79 = .ok (.goto 5, 3) := by decide +kernel
theorem dX10_readsItem_82 : decode cX10_readsItem 82 = .ok (.bipush 63, 2) := by decide +kernel
theorem dX10_readsItem_84 : decode cX10_readsItem 84 = .ok (.invokevirtual 183, 3) := by decide +kernel
theorem dX10_readsItem_87 : decode cX10_readsItem 87 = .ok (.ifCond .ne 5, 3) := by decide +kernel
theorem dX10_readsItem_90 : decode cX10_readsItem 90 = .ok (.iconst 0, 1) := by decide +kernel
theorem dX10_readsItem_91 : decode cX10_readsItem 91 = .ok (.ireturn, 1) := by decide +kernel
theorem dX10_readsItem_92 : decode cX10_readsItem 92 = .ok (.aload_n 0, 1) := by decide +kernel
theorem dX10_readsItem_93 : decode cX10_readsItem 93 = .ok (.iload_n 2, 1) := by decide +kernel
theorem dX10_readsItem_94 : decode cX10_readsItem 94 = .ok (.bipush 120, 2) := by decide +kernel
theorem dX10_readsItem_96 : decode cX10_readsItem 96 = .ok (.if_icmp .ne 8, 3) := by decide +kernel
theorem dX10_readsItem_99 : decode cX10_readsItem 99 = .ok (.bipush 123, 2) := by decide +kernel
theorem dX10_readsItem_101 : decode cX10_readsItem 101 = .ok (.goto 5, 3) := by decide +kernel
theorem dX10_readsItem_104 : decode cX10_readsItem 104 = .ok (.bipush 59, 2) := by decide +kernel
theorem dX10_readsItem_106 : decode cX10_readsItem 106 = .ok (.invokevirtual 186, 3) := by decide +kernel
theorem dX10_readsItem_109 : decode cX10_readsItem 109 = .ok (.ifCond .eq 14, 3) := by decide +kernel
theorem dX10_readsItem_112 : decode cX10_readsItem 112 = .ok (.iload_n 2, 1) := by decide +kernel
theorem dX10_readsItem_113 : decode cX10_readsItem 113 = .ok (.bipush 120, 2) := by decide +kernel
theorem dX10_readsItem_115 : decode cX10_readsItem 115 = .ok (.if_icmp .ne 10, 3) := by decide +kernel
theorem dX10_readsItem_118 : decode cX10_readsItem 118 = .ok (.iload_n 1, 1) := by decide +kernel
theorem dX10_readsItem_119 : decode cX10_readsItem 119 = .ok (.iconst 4, 1) := by decide +kernel
theorem dX10_readsItem_120 : decode cX10_readsItem 120 = .ok (.if_icmp .ne 5, 3) := by decide +kernel
theorem dX10_readsItem_123 : decode cX10_readsItem 123 = .ok (.iconst 0, 1) := by decide +kernel
theorem dX10_readsItem_124 : decode cX10_readsItem 124 = .ok (.ireturn, 1) := by decide +kernel
theorem dX10_readsItem_125 : decode cX10_readsItem 125 = .ok (.aload_n 0, 1) := by decide +kernel
theorem dX10_readsItem_126 : decode cX10_readsItem 126 = .ok (.getfield 54, 3) := by decide +kernel
theorem dX10_readsItem_129 : decode cX10_readsItem 129 = .ok (.aload_n 0, 1) := by decide +kernel
theorem dX10_readsItem_130 : decode cX10_readsItem 130 = .ok (.getfield 177, 3) := by decide +kernel
theorem dX10_readsItem_133 : decode cX10_readsItem 133 = .ok (.iload_n 2, 1) := by decide +kernel
theorem dX10_readsItem_134 : decode cX10_readsItem 134 = .ok (.iastore, 1) := by decide +kernel
theorem dX10_readsItem_135 : decode cX10_readsItem 135 = .ok (.aload_n 0, 1) := by decide +kernel
theorem dX10_readsItem_136 : decode cX10_readsItem 136 = .ok (.dup, 1) := by decide +kernel
theorem dX10_readsItem_137 : decode cX10_readsItem 137 = .ok (.getfield 177, 3) := by decide +kernel
theorem dX10_readsItem_140 : decode cX10_readsItem 140 = .ok (.iconst 1, 1) := by decide +kernel
theorem dX10_readsItem_141 : decode cX10_readsItem 141 = .ok (.iadd, 1) := by decide +kernel
theorem dX10_readsItem_142 : decode cX10_readsItem 142 = .ok (.putfield 177, 3) := by decide +kernel
theorem dX10_readsItem_145 : decode cX10_readsItem 145 = .ok (.aload_n 0, 1) := by decide +kernel
theorem dX10_readsItem_146 : decode cX10_readsItem 146 = .ok (.invokevirtual 180, 3) := by decide +kernel
theorem dX10_readsItem_149 : decode cX10_readsItem 149 = .ok (.iconst 1, 1) := by decide +kernel
theorem dX10_readsItem_150 : decode cX10_readsItem 150 = .ok (.ireturn, 1) := by decide +kernel
theorem dX10_readsAll_0 : decode cX10_readsAll 0 = .ok (.aload_n 0, 1) := by decide +kernel
theorem dX10_readsAll_1 : decode cX10_readsAll 1 = .ok (.iconst 0, 1) := by decide +kernel
theorem dX10_readsAll_2 : decode cX10_readsAll 2 = .ok (.putfield 162, 3) := by decide +kernel
theorem dX10_readsAll_5 : decode cX10_readsAll 5 = .ok (.aload_n 0, 1) := by decide +kernel
theorem dX10_readsAll_6 : decode cX10_readsAll 6 = .ok (.iconst 0, 1) := by decide +kernel
theorem dX10_readsAll_7 : decode cX10_readsAll 7 = .ok (.putfield 177, 3) := by decide +kernel
theorem dX10_readsAll_10 : decode cX10_readsAll 10 = .ok (.iconst 0, 1) := by decide +kernel
theorem dX10_readsAll_11 : decode cX10_readsAll 11 = .ok (.istore_n 1, 1) := by decide +kernel
theorem dX10_readsAll_12 : decode cX10_readsAll 12 = .ok (.aload_n 0, 1) := by decide +kernel
theorem dX10_readsAll_13 : decode cX10_readsAll 13 = .ok (.invokevirtual 180, 3) := by decide +kernel
theorem dX10_readsAll_16 : decode cX10_readsAll 16 = .ok (.aload_n 0, 1) := by decide +kernel
theorem dX10_readsAll_17 : decode cX10_readsAll 17 = .ok (.getfield 168, 3) := by decide +kernel
theorem dX10_readsAll_20 : decode cX10_readsAll 20 = .ok (.ifCond .eq 84, 3) := by decide +kernel
theorem dX10_readsAll_23 : decode cX10_readsAll 23 = .ok (.iload_n 1, 1) := by decide +kernel
theorem dX10_readsAll_24 : decode cX10_readsAll 24 = .ok (.ifCond .le 43, 3) := by decide +kernel
theorem dX10_readsAll_27 : decode cX10_readsAll 27 = .ok (.aload_n 0, 1) := by decide +kernel
theorem dX10_readsAll_28 : decode cX10_readsAll 28 = .ok (.bipush 125, 2) := by decide +kernel
theorem dX10_readsAll_30 : decode cX10_readsAll 30 = .ok (.invokevirtual 186, 3) := by decide +kernel
theorem dX10_readsAll_33 : decode cX10_readsAll 33 = .ok (.ifCond .eq 34, 3) := by decide +kernel
theorem dX10_readsAll_36 : decode cX10_readsAll 36 = .ok (.aload_n 0, 1) := by decide +kernel
theorem dX10_readsAll_37 : decode cX10_readsAll 37 = .ok (.getfield 54, 3) := by decide +kernel
theorem dX10_readsAll_40 : decode cX10_readsAll 40 = .ok (.aload_n 0, 1) := by decide +kernel
theorem dX10_readsAll_41 : decode cX10_readsAll 41 = .ok (.getfield 177, 3) := by decide +kernel
theorem dX10_readsAll_44 : decode cX10_readsAll 44 = .ok (.bipush 125, 2) := by decide +kernel
theorem dX10_readsAll_46 : decode cX10_readsAll 46 = .ok (.iastore, 1) := by decide +kernel
theorem dX10_readsAll_47 : decode cX10_readsAll 47 = .ok (.aload_n 0, 1) := by decide +kernel
theorem dX10_readsAll_48 : decode cX10_readsAll 48 = .ok (.dup, 1) := by decide +kernel
theorem dX10_readsAll_49 : decode cX10_readsAll 49 = .ok (.getfield 177, 3) := by decide +kernel
theorem dX10_readsAll_52 : decode cX10_readsAll 52 = .ok (.iconst 1, 1) := by decide +kernel
theorem dX10_readsAll_53 : decode cX10_readsAll 53 = .ok (.iadd, 1) := by decide +kernel
theorem dX10_readsAll_54 : decode cX10_readsAll 54 = .ok (.putfield 177, 3) := by decide +kernel
theorem dX10_readsAll_57 : decode cX10_readsAll 57 = .ok (.iinc 1 (-1), 3) := by decide +kernel
theorem dX10_readsAll_60 : decode cX10_readsAll 60 = .ok (.aload_n 0, 1) := by decide +kernel
theorem dX10_readsAll_61 : decode cX10_readsAll 61 = .ok (.invokevirtual 180, 3) := by decide +kernel
theorem dX10_readsAll_64 : decode cX10_readsAll 64 = .ok (.goto (-48), 3) := by decide +kernel
theorem dX10_readsAll_67 : decode cX10_readsAll 67 = .ok (.aload_n 0, 1) := by decide +kernel
theorem dX10_readsAll_68 : decode cX10_readsAll 68 = .ok (.iload_n 1, 1) := by decide +kernel
theorem dX10_readsAll_69 : decode cX10_readsAll 69 = .ok (.invokevirtual 189, 3) := by decide +kernel
theorem dX10_readsAll_72 : decode cX10_readsAll 72 = .ok (.ifCond .ne 5, 3) := by decide +kernel
theorem dX10_readsAll_75 : decode cX10_readsAll 75 = .ok (.iconst 0, 1) := by decide +kernel
theorem dX10_readsAll_76 : decode cX10_readsAll 76 = .ok (.ireturn, 1) := by decide +kernel
theorem dX10_readsAll_77 : decode cX10_readsAll 77 = .ok (.iload_n 1, 1) := by decide +kernel
theorem dX10_readsAll_78 : decode cX10_readsAll 78 = .ok (.aload_n 0, 1) := by decide +kernel
theorem dX10_readsAll_79 : decode cX10_readsAll 79 = .ok (.getfield 54, 3) := by decide +kernel
theorem dX10_readsAll_82 : decode cX10_readsAll 82 = .ok (.aload_n 0, 1) := by decide +kernel
theorem dX10_readsAll_83 : decode cX10_readsAll 83 = .ok (.getfield 177, 3) := by decide +kernel
theorem dX10_readsAll_86 : decode cX10_readsAll 86 = .ok (.iconst 1, 1) := by decide +kernel
theorem dX10_readsAll_87 : decode cX10_readsAll 87 = .ok (.isub, 1) := by decide +kernel
theorem dX10_readsAll_88 : decode cX10_readsAll 88 = .ok (.iaload, 1) := by decide +kernel
theorem dX10_readsAll_89 : decode cX10_readsAll 89 = .ok (.bipush 120, 2) := by decide +kernel
theorem dX10_readsAll_91 : decode cX10_readsAll 91 = .ok (.if_icmp .ne 7, 3) := by decide +kernel
theorem dX10_readsAll_94 : decode cX10_readsAll 94 = .ok (.iconst 1, 1) := by decide +kernel
theorem dX10_readsAll_95 : decode cX10_readsAll 95 = .ok (.goto 4, 3) := by decide +kernel
theorem dX10_readsAll_98 : decode cX10_readsAll 98 = .ok (.iconst 0, 1) := by decide +kernel
theorem dX10_readsAll_99 : decode cX10_readsAll 99 = .ok (.iadd, 1) := by decide +kernel
theorem dX10_readsAll_100 : decode cX10_readsAll 100 = .ok (.istore_n 1, 1) := by decide +kernel
theorem dX10_readsAll_101 : decode cX10_readsAll 101 = .ok (.goto (-85), 3) := by decide +kernel
theorem dX10_readsAll_104 : decode cX10_readsAll 104 = .ok (.iload_n 1, 1) := by decide +kernel
theorem dX10_readsAll_105 : decode cX10_readsAll 105 = .ok (.ifCond .ne 7, 3) := by decide +kernel
theorem dX10_readsAll_108 : decode cX10_readsAll 108 = .ok (.iconst 1, 1) := by decide +kernel
theorem dX10_readsAll_109 : decode cX10_readsAll 109 = .ok (.goto 4, 3) := by decide +kernel
theorem dX10_readsAll_112 : decode cX10_readsAll 112 = .ok (.iconst 0, 1) := by decide +kernel
theorem dX10_readsAll_113 : decode cX10_readsAll 113 = .ok (.ireturn, 1) := by decide +kernel
theorem dX10_runs_0 : decode cX10_runs 0 = .ok (.iconst 0, 1) := by decide +kernel
theorem dX10_runs_1 : decode cX10_runs 1 = .ok (.istore_n 1, 1) := by decide +kernel
theorem dX10_runs_2 : decode cX10_runs 2 = .ok (.iconst 0, 1) := by decide +kernel
theorem dX10_runs_3 : decode cX10_runs 3 = .ok (.istore_n 2, 1) := by decide +kernel
theorem dX10_runs_4 : decode cX10_runs 4 = .ok (.iconst 0, 1) := by decide +kernel
theorem dX10_runs_5 : decode cX10_runs 5 = .ok (.istore_n 3, 1) := by decide +kernel
theorem dX10_runs_6 : decode cX10_runs 6 = .ok (.iload_n 3, 1) := by decide +kernel
theorem dX10_runs_7 : decode cX10_runs 7 = .ok (.aload_n 0, 1) := by decide +kernel
theorem dX10_runs_8 : decode cX10_runs 8 = .ok (.getfield 177, 3) := by decide +kernel
theorem dX10_runs_11 : decode cX10_runs 11 = .ok (.if_icmp .ge 121, 3) := by decide +kernel
theorem dX10_runs_14 : decode cX10_runs 14 = .ok (.aload_n 0, 1) := by decide +kernel
theorem dX10_runs_15 : decode cX10_runs 15 = .ok (.getfield 54, 3) := by decide +kernel
theorem dX10_runs_18 : decode cX10_runs 18 = .ok (.iload_n 3, 1) := by decide +kernel
theorem dX10_runs_19 : decode cX10_runs 19 = .ok (.iaload, 1) := by decide +kernel
theorem dX10_runs_20 : decode cX10_runs 20 = .ok (.istore 4, 2) := by decide +kernel
theorem dX10_runs_22 : decode cX10_runs 22 = .ok (.iload 4, 2) := by decide +kernel
theorem dX10_runs_24 : decode cX10_runs 24 = .ok (.bipush 120, 2) := by decide +kernel
theorem dX10_runs_26 : decode cX10_runs 26 = .ok (.if_icmp .ne 28, 3) := by decide +kernel
theorem dX10_runs_29 : decode cX10_runs 29 = .ok (.aload_n 0, 1) := by decide +kernel
theorem dX10_runs_30 : decode cX10_runs 30 = .ok (.getfield 63, 3) := by decide +kernel
theorem dX10_runs_33 : decode cX10_runs 33 = .ok (.iload_n 2, 1) := by decide +kernel
theorem dX10_runs_34 : decode cX10_runs 34 = .ok (.iload_n 3, 1) := by decide +kernel
theorem dX10_runs_35 : decode cX10_runs 35 = .ok (.iastore, 1) := by decide +kernel
theorem dX10_runs_36 : decode cX10_runs 36 = .ok (.aload_n 0, 1) := by decide +kernel
theorem dX10_runs_37 : decode cX10_runs 37 = .ok (.getfield 66, 3) := by decide +kernel
theorem dX10_runs_40 : decode cX10_runs 40 = .ok (.iload_n 2, 1) := by decide +kernel
theorem dX10_runs_41 : decode cX10_runs 41 = .ok (.aload_n 0, 1) := by decide +kernel
theorem dX10_runs_42 : decode cX10_runs 42 = .ok (.getfield 57, 3) := by decide +kernel
theorem dX10_runs_45 : decode cX10_runs 45 = .ok (.iload_n 3, 1) := by decide +kernel
theorem dX10_runs_46 : decode cX10_runs 46 = .ok (.iaload, 1) := by decide +kernel
theorem dX10_runs_47 : decode cX10_runs 47 = .ok (.iastore, 1) := by decide +kernel
theorem dX10_runs_48 : decode cX10_runs 48 = .ok (.iinc 2 1, 3) := by decide +kernel
theorem dX10_runs_51 : decode cX10_runs 51 = .ok (.goto 75, 3) := by decide +kernel
theorem dX10_runs_54 : decode cX10_runs 54 = .ok (.iload 4, 2) := by decide +kernel
theorem dX10_runs_56 : decode cX10_runs 56 = .ok (.bipush 125, 2) := by decide +kernel
theorem dX10_runs_58 : decode cX10_runs 58 = .ok (.if_icmp .ne 44, 3) := by decide +kernel
theorem dX10_runs_61 : decode cX10_runs 61 = .ok (.aload_n 0, 1) := by decide +kernel
theorem dX10_runs_62 : decode cX10_runs 62 = .ok (.getfield 66, 3) := by decide +kernel
theorem dX10_runs_65 : decode cX10_runs 65 = .ok (.iload_n 2, 1) := by decide +kernel
theorem dX10_runs_66 : decode cX10_runs 66 = .ok (.iconst 1, 1) := by decide +kernel
theorem dX10_runs_67 : decode cX10_runs 67 = .ok (.isub, 1) := by decide +kernel
theorem dX10_runs_68 : decode cX10_runs 68 = .ok (.dup2, 1) := by decide +kernel
theorem dX10_runs_69 : decode cX10_runs 69 = .ok (.iaload, 1) := by decide +kernel
theorem dX10_runs_70 : decode cX10_runs 70 = .ok (.iconst 1, 1) := by decide +kernel
theorem dX10_runs_71 : decode cX10_runs 71 = .ok (.isub, 1) := by decide +kernel
theorem dX10_runs_72 : decode cX10_runs 72 = .ok (.iastore, 1) := by decide +kernel
theorem dX10_runs_73 : decode cX10_runs 73 = .ok (.aload_n 0, 1) := by decide +kernel
theorem dX10_runs_74 : decode cX10_runs 74 = .ok (.getfield 66, 3) := by decide +kernel
theorem dX10_runs_77 : decode cX10_runs 77 = .ok (.iload_n 2, 1) := by decide +kernel
theorem dX10_runs_78 : decode cX10_runs 78 = .ok (.iconst 1, 1) := by decide +kernel
theorem dX10_runs_79 : decode cX10_runs 79 = .ok (.isub, 1) := by decide +kernel
theorem dX10_runs_80 : decode cX10_runs 80 = .ok (.iaload, 1) := by decide +kernel
theorem dX10_runs_81 : decode cX10_runs 81 = .ok (.ifCond .le 15, 3) := by decide +kernel
theorem dX10_runs_84 : decode cX10_runs 84 = .ok (.aload_n 0, 1) := by decide +kernel
theorem dX10_runs_85 : decode cX10_runs 85 = .ok (.getfield 63, 3) := by decide +kernel
theorem dX10_runs_88 : decode cX10_runs 88 = .ok (.iload_n 2, 1) := by decide +kernel
theorem dX10_runs_89 : decode cX10_runs 89 = .ok (.iconst 1, 1) := by decide +kernel
theorem dX10_runs_90 : decode cX10_runs 90 = .ok (.isub, 1) := by decide +kernel
theorem dX10_runs_91 : decode cX10_runs 91 = .ok (.iaload, 1) := by decide +kernel
theorem dX10_runs_92 : decode cX10_runs 92 = .ok (.istore_n 3, 1) := by decide +kernel
theorem dX10_runs_93 : decode cX10_runs 93 = .ok (.goto 33, 3) := by decide +kernel
theorem dX10_runs_96 : decode cX10_runs 96 = .ok (.iinc 2 (-1), 3) := by decide +kernel
theorem dX10_runs_99 : decode cX10_runs 99 = .ok (.goto 27, 3) := by decide +kernel
theorem dX10_runs_102 : decode cX10_runs 102 = .ok (.iload_n 1, 1) := by decide +kernel
theorem dX10_runs_103 : decode cX10_runs 103 = .ok (.sipush 200, 3) := by decide +kernel
theorem dX10_runs_106 : decode cX10_runs 106 = .ok (.if_icmp .ne 5, 3) := by decide +kernel
theorem dX10_runs_109 : decode cX10_runs 109 = .ok (.iload_n 1, 1) := by decide +kernel
theorem dX10_runs_110 : decode cX10_runs 110 = .ok (.ireturn, 1) := by decide +kernel
theorem dX10_runs_111 : decode cX10_runs 111 = .ok (.iinc 1 1, 3) := by decide +kernel
theorem dX10_runs_114 : decode cX10_runs 114 = .ok (.aload_n 0, 1) := by decide +kernel
theorem dX10_runs_115 : decode cX10_runs 115 = .ok (.iload 4, 2) := by decide +kernel
theorem dX10_runs_117 : decode cX10_runs 117 = .ok (.aload_n 0, 1) := by decide +kernel
theorem dX10_runs_118 : decode cX10_runs 118 = .ok (.getfield 57, 3) := by decide +kernel
theorem dX10_runs_121 : decode cX10_runs 121 = .ok (.iload_n 3, 1) := by decide +kernel
theorem dX10_runs_122 : decode cX10_runs 122 = .ok (.iaload, 1) := by decide +kernel
theorem dX10_runs_123 : decode cX10_runs 123 = .ok (.invokevirtual 192, 3) := by decide +kernel
theorem dX10_runs_126 : decode cX10_runs 126 = .ok (.iinc 3 1, 3) := by decide +kernel
theorem dX10_runs_129 : decode cX10_runs 129 = .ok (.goto (-123), 3) := by decide +kernel
theorem dX10_runs_132 : decode cX10_runs 132 = .ok (.iload_n 1, 1) := by decide +kernel
theorem dX10_runs_133 : decode cX10_runs 133 = .ok (.ireturn, 1) := by decide +kernel
theorem dX10_run_0 : decode cX10_run 0 = .ok (.aload_n 0, 1) := by decide +kernel
theorem dX10_run_1 : decode cX10_run 1 = .ok (.iconst 0, 1) := by decide +kernel
theorem dX10_run_2 : decode cX10_run 2 = .ok (.putfield 1, 3) := by decide +kernel
theorem dX10_run_5 : decode cX10_run 5 = .ok (.aload_n 0, 1) := by decide +kernel
theorem dX10_run_6 : decode cX10_run 6 = .ok (.aload_n 0, 1) := by decide +kernel
theorem dX10_run_7 : decode cX10_run 7 = .ok (.getfield 127, 3) := by decide +kernel
theorem dX10_run_10 : decode cX10_run 10 = .ok (.sipush 800, 3) := by decide +kernel
theorem dX10_run_13 : decode cX10_run 13 = .ok (.if_icmp .gt 7, 3) := by decide +kernel
theorem dX10_run_16 : decode cX10_run 16 = .ok (.iconst 1, 1) := by decide +kernel
theorem dX10_run_17 : decode cX10_run 17 = .ok (.goto 4, 3) := by decide +kernel
theorem dX10_run_20 : decode cX10_run 20 = .ok (.iconst 0, 1) := by decide +kernel
theorem dX10_run_21 : decode cX10_run 21 = .ok (.iconst 1, 1) := by decide +kernel
theorem dX10_run_22 : decode cX10_run 22 = .ok (.invokevirtual 88, 3) := by decide +kernel
theorem dX10_run_25 : decode cX10_run 25 = .ok (.ifCond .eq 5, 3) := by decide +kernel
theorem dX10_run_28 : decode cX10_run 28 = .ok (.iconst 0, 1) := by decide +kernel
theorem dX10_run_29 : decode cX10_run 29 = .ok (.ireturn, 1) := by decide +kernel
theorem dX10_run_30 : decode cX10_run 30 = .ok (.aload_n 0, 1) := by decide +kernel
theorem dX10_run_31 : decode cX10_run 31 = .ok (.invokevirtual 195, 3) := by decide +kernel
theorem dX10_run_34 : decode cX10_run 34 = .ok (.istore_n 1, 1) := by decide +kernel
theorem dX10_run_35 : decode cX10_run 35 = .ok (.aload_n 0, 1) := by decide +kernel
theorem dX10_run_36 : decode cX10_run 36 = .ok (.iload_n 1, 1) := by decide +kernel
theorem dX10_run_37 : decode cX10_run 37 = .ok (.ifCond .eq 7, 3) := by decide +kernel
theorem dX10_run_40 : decode cX10_run 40 = .ok (.iconst (-1), 1) := by decide +kernel
theorem dX10_run_41 : decode cX10_run 41 = .ok (.goto 7, 3) := by decide +kernel
theorem dX10_run_44 : decode cX10_run 44 = .ok (.aload_n 0, 1) := by decide +kernel
theorem dX10_run_45 : decode cX10_run 45 = .ok (.getfield 165, 3) := by decide +kernel
theorem dX10_run_48 : decode cX10_run 48 = .ok (.putfield 60, 3) := by decide +kernel
theorem dX10_run_51 : decode cX10_run 51 = .ok (.aload_n 0, 1) := by decide +kernel
theorem dX10_run_52 : decode cX10_run 52 = .ok (.iconst 0, 1) := by decide +kernel
theorem dX10_run_53 : decode cX10_run 53 = .ok (.putfield 153, 3) := by decide +kernel
theorem dX10_run_56 : decode cX10_run 56 = .ok (.aload_n 0, 1) := by decide +kernel
theorem dX10_run_57 : decode cX10_run 57 = .ok (.iload_n 1, 1) := by decide +kernel
theorem dX10_run_58 : decode cX10_run 58 = .ok (.iconst 2, 1) := by decide +kernel
theorem dX10_run_59 : decode cX10_run 59 = .ok (.invokevirtual 88, 3) := by decide +kernel
theorem dX10_run_62 : decode cX10_run 62 = .ok (.ifCond .eq 7, 3) := by decide +kernel
theorem dX10_run_65 : decode cX10_run 65 = .ok (.iconst 0, 1) := by decide +kernel
theorem dX10_run_66 : decode cX10_run 66 = .ok (.goto 7, 3) := by decide +kernel
theorem dX10_run_69 : decode cX10_run 69 = .ok (.aload_n 0, 1) := by decide +kernel
theorem dX10_run_70 : decode cX10_run 70 = .ok (.invokevirtual 199, 3) := by decide +kernel
theorem dX10_run_73 : decode cX10_run 73 = .ok (.ireturn, 1) := by decide +kernel
theorem dX10_errorPosition_0 : decode cX10_errorPosition 0 = .ok (.aload_n 0, 1) := by decide +kernel
theorem dX10_errorPosition_1 : decode cX10_errorPosition 1 = .ok (.iconst 0, 1) := by decide +kernel
theorem dX10_errorPosition_2 : decode cX10_errorPosition 2 = .ok (.putfield 1, 3) := by decide +kernel
theorem dX10_errorPosition_5 : decode cX10_errorPosition 5 = .ok (.aload_n 0, 1) := by decide +kernel
theorem dX10_errorPosition_6 : decode cX10_errorPosition 6 = .ok (.getfield 60, 3) := by decide +kernel
theorem dX10_errorPosition_9 : decode cX10_errorPosition 9 = .ok (.ireturn, 1) := by decide +kernel
theorem dX10_pagePlace_0 : decode cX10_pagePlace 0 = .ok (.iconst 0, 1) := by decide +kernel
theorem dX10_pagePlace_1 : decode cX10_pagePlace 1 = .ok (.istore_n 2, 1) := by decide +kernel
theorem dX10_pagePlace_2 : decode cX10_pagePlace 2 = .ok (.iload_n 2, 1) := by decide +kernel
theorem dX10_pagePlace_3 : decode cX10_pagePlace 3 = .ok (.aload_n 0, 1) := by decide +kernel
theorem dX10_pagePlace_4 : decode cX10_pagePlace 4 = .ok (.getfield 203, 3) := by decide +kernel
theorem dX10_pagePlace_7 : decode cX10_pagePlace 7 = .ok (.if_icmp .ge 21, 3) := by decide +kernel
theorem dX10_pagePlace_10 : decode cX10_pagePlace 10 = .ok (.aload_n 0, 1) := by decide +kernel
theorem dX10_pagePlace_11 : decode cX10_pagePlace 11 = .ok (.getfield 75, 3) := by decide +kernel
theorem dX10_pagePlace_14 : decode cX10_pagePlace 14 = .ok (.iload_n 2, 1) := by decide +kernel
theorem dX10_pagePlace_15 : decode cX10_pagePlace 15 = .ok (.iaload, 1) := by decide +kernel
theorem dX10_pagePlace_16 : decode cX10_pagePlace 16 = .ok (.iload_n 1, 1) := by decide +kernel
theorem dX10_pagePlace_17 : decode cX10_pagePlace 17 = .ok (.if_icmp .ne 5, 3) := by decide +kernel
theorem dX10_pagePlace_20 : decode cX10_pagePlace 20 = .ok (.iload_n 2, 1) := by decide +kernel
theorem dX10_pagePlace_21 : decode cX10_pagePlace 21 = .ok (.ireturn, 1) := by decide +kernel
theorem dX10_pagePlace_22 : decode cX10_pagePlace 22 = .ok (.iinc 2 1, 3) := by decide +kernel
theorem dX10_pagePlace_25 : decode cX10_pagePlace 25 = .ok (.goto (-23), 3) := by decide +kernel
theorem dX10_pagePlace_28 : decode cX10_pagePlace 28 = .ok (.iconst (-1), 1) := by decide +kernel
theorem dX10_pagePlace_29 : decode cX10_pagePlace 29 = .ok (.ireturn, 1) := by decide +kernel
theorem dX10_out_0 : decode cX10_out 0 = .ok (.aload_n 0, 1) := by decide +kernel
theorem dX10_out_1 : decode cX10_out 1 = .ok (.dup, 1) := by decide +kernel
theorem dX10_out_2 : decode cX10_out 2 = .ok (.getfield 203, 3) := by decide +kernel
theorem dX10_out_5 : decode cX10_out 5 = .ok (.iconst 1, 1) := by decide +kernel
theorem dX10_out_6 : decode cX10_out 6 = .ok (.isub, 1) := by decide +kernel
theorem dX10_out_7 : decode cX10_out 7 = .ok (.putfield 203, 3) := by decide +kernel
theorem dX10_out_10 : decode cX10_out 10 = .ok (.iload_n 1, 1) := by decide +kernel
theorem dX10_out_11 : decode cX10_out 11 = .ok (.istore_n 2, 1) := by decide +kernel
theorem dX10_out_12 : decode cX10_out 12 = .ok (.iload_n 2, 1) := by decide +kernel
theorem dX10_out_13 : decode cX10_out 13 = .ok (.aload_n 0, 1) := by decide +kernel
theorem dX10_out_14 : decode cX10_out 14 = .ok (.getfield 203, 3) := by decide +kernel
theorem dX10_out_17 : decode cX10_out 17 = .ok (.if_icmp .ge 23, 3) := by decide +kernel
theorem dX10_out_20 : decode cX10_out 20 = .ok (.aload_n 0, 1) := by decide +kernel
theorem dX10_out_21 : decode cX10_out 21 = .ok (.getfield 75, 3) := by decide +kernel
theorem dX10_out_24 : decode cX10_out 24 = .ok (.iload_n 2, 1) := by decide +kernel
theorem dX10_out_25 : decode cX10_out 25 = .ok (.aload_n 0, 1) := by decide +kernel
theorem dX10_out_26 : decode cX10_out 26 = .ok (.getfield 75, 3) := by decide +kernel
theorem dX10_out_29 : decode cX10_out 29 = .ok (.iload_n 2, 1) := by decide +kernel
theorem dX10_out_30 : decode cX10_out 30 = .ok (.iconst 1, 1) := by decide +kernel
theorem dX10_out_31 : decode cX10_out 31 = .ok (.iadd, 1) := by decide +kernel
theorem dX10_out_32 : decode cX10_out 32 = .ok (.iaload, 1) := by decide +kernel
theorem dX10_out_33 : decode cX10_out 33 = .ok (.iastore, 1) := by decide +kernel
theorem dX10_out_34 : decode cX10_out 34 = .ok (.iinc 2 1, 3) := by decide +kernel
theorem dX10_out_37 : decode cX10_out 37 = .ok (.goto (-25), 3) := by decide +kernel
theorem dX10_out_40 : decode cX10_out 40 = .ok (.return_, 1) := by decide +kernel
theorem dX10_writesPage_0 : decode cX10_writesPage 0 = .ok (.aload_n 0, 1) := by decide +kernel
theorem dX10_writesPage_1 : decode cX10_writesPage 1 = .ok (.getfield 78, 3) := by decide +kernel
theorem dX10_writesPage_4 : decode cX10_writesPage 4 = .ok (.iload_n 1, 1) := by decide +kernel
theorem dX10_writesPage_5 : decode cX10_writesPage 5 = .ok (.baload, 1) := by decide +kernel
theorem dX10_writesPage_6 : decode cX10_writesPage 6 = .ok (.ifCond .ne 5, 3) := by decide +kernel
theorem dX10_writesPage_9 : decode cX10_writesPage 9 = .ok (.iconst 0, 1) := by decide +kernel
theorem dX10_writesPage_10 : decode cX10_writesPage 10 = .ok (.ireturn, 1) := by decide +kernel
theorem dX10_writesPage_11 : decode cX10_writesPage 11 = .ok (.aload_n 0, 1) := by decide +kernel
theorem dX10_writesPage_12 : decode cX10_writesPage 12 = .ok (.getfield 78, 3) := by decide +kernel
theorem dX10_writesPage_15 : decode cX10_writesPage 15 = .ok (.iload_n 1, 1) := by decide +kernel
theorem dX10_writesPage_16 : decode cX10_writesPage 16 = .ok (.iconst 0, 1) := by decide +kernel
theorem dX10_writesPage_17 : decode cX10_writesPage 17 = .ok (.bastore, 1) := by decide +kernel
theorem dX10_writesPage_18 : decode cX10_writesPage 18 = .ok (.aload_n 0, 1) := by decide +kernel
theorem dX10_writesPage_19 : decode cX10_writesPage 19 = .ok (.dup, 1) := by decide +kernel
theorem dX10_writesPage_20 : decode cX10_writesPage 20 = .ok (.getfield 206, 3) := by decide +kernel
theorem dX10_writesPage_23 : decode cX10_writesPage 23 = .ok (.iconst 1, 1) := by decide +kernel
theorem dX10_writesPage_24 : decode cX10_writesPage 24 = .ok (.iadd, 1) := by decide +kernel
theorem dX10_writesPage_25 : decode cX10_writesPage 25 = .ok (.putfield 206, 3) := by decide +kernel
theorem dX10_writesPage_28 : decode cX10_writesPage 28 = .ok (.iconst 4, 1) := by decide +kernel
theorem dX10_writesPage_29 : decode cX10_writesPage 29 = .ok (.iload_n 1, 1) := by decide +kernel
theorem dX10_writesPage_30 : decode cX10_writesPage 30 = .ok (.imul, 1) := by decide +kernel
theorem dX10_writesPage_31 : decode cX10_writesPage 31 = .ok (.istore_n 2, 1) := by decide +kernel
theorem dX10_writesPage_32 : decode cX10_writesPage 32 = .ok (.iload_n 2, 1) := by decide +kernel
theorem dX10_writesPage_33 : decode cX10_writesPage 33 = .ok (.iconst 4, 1) := by decide +kernel
theorem dX10_writesPage_34 : decode cX10_writesPage 34 = .ok (.iload_n 1, 1) := by decide +kernel
theorem dX10_writesPage_35 : decode cX10_writesPage 35 = .ok (.imul, 1) := by decide +kernel
theorem dX10_writesPage_36 : decode cX10_writesPage 36 = .ok (.iconst 4, 1) := by decide +kernel
theorem dX10_writesPage_37 : decode cX10_writesPage 37 = .ok (.iadd, 1) := by decide +kernel
theorem dX10_writesPage_38 : decode cX10_writesPage 38 = .ok (.if_icmp .ge 21, 3) := by decide +kernel
theorem dX10_writesPage_41 : decode cX10_writesPage 41 = .ok (.aload_n 0, 1) := by decide +kernel
theorem dX10_writesPage_42 : decode cX10_writesPage 42 = .ok (.getfield 69, 3) := by decide +kernel
theorem dX10_writesPage_45 : decode cX10_writesPage 45 = .ok (.iload_n 2, 1) := by decide +kernel
theorem dX10_writesPage_46 : decode cX10_writesPage 46 = .ok (.aload_n 0, 1) := by decide +kernel
theorem dX10_writesPage_47 : decode cX10_writesPage 47 = .ok (.getfield 72, 3) := by decide +kernel
theorem dX10_writesPage_50 : decode cX10_writesPage 50 = .ok (.iload_n 2, 1) := by decide +kernel
theorem dX10_writesPage_51 : decode cX10_writesPage 51 = .ok (.iaload, 1) := by decide +kernel
theorem dX10_writesPage_52 : decode cX10_writesPage 52 = .ok (.iastore, 1) := by decide +kernel
theorem dX10_writesPage_53 : decode cX10_writesPage 53 = .ok (.iinc 2 1, 3) := by decide +kernel
theorem dX10_writesPage_56 : decode cX10_writesPage 56 = .ok (.goto (-24), 3) := by decide +kernel
theorem dX10_writesPage_59 : decode cX10_writesPage 59 = .ok (.iconst 1, 1) := by decide +kernel
theorem dX10_writesPage_60 : decode cX10_writesPage 60 = .ok (.ireturn, 1) := by decide +kernel
theorem dX10_accesses_0 : decode cX10_accesses 0 = .ok (.aload_n 0, 1) := by decide +kernel
theorem dX10_accesses_1 : decode cX10_accesses 1 = .ok (.iload_n 1, 1) := by decide +kernel
theorem dX10_accesses_2 : decode cX10_accesses 2 = .ok (.invokevirtual 137, 3) := by decide +kernel
theorem dX10_accesses_5 : decode cX10_accesses 5 = .ok (.pop, 1) := by decide +kernel
theorem dX10_accesses_6 : decode cX10_accesses 6 = .ok (.aload_n 0, 1) := by decide +kernel
theorem dX10_accesses_7 : decode cX10_accesses 7 = .ok (.iload_n 1, 1) := by decide +kernel
theorem dX10_accesses_8 : decode cX10_accesses 8 = .ok (.invokevirtual 209, 3) := by decide +kernel
theorem dX10_accesses_11 : decode cX10_accesses 11 = .ok (.istore_n 2, 1) := by decide +kernel
theorem dX10_accesses_12 : decode cX10_accesses 12 = .ok (.iload_n 2, 1) := by decide +kernel
theorem dX10_accesses_13 : decode cX10_accesses 13 = .ok (.iconst (-1), 1) := by decide +kernel
theorem dX10_accesses_14 : decode cX10_accesses 14 = .ok (.if_icmp .eq 11, 3) := by decide +kernel
theorem dX10_accesses_17 : decode cX10_accesses 17 = .ok (.aload_n 0, 1) := by decide +kernel
theorem dX10_accesses_18 : decode cX10_accesses 18 = .ok (.iload_n 2, 1) := by decide +kernel
theorem dX10_accesses_19 : decode cX10_accesses 19 = .ok (.invokevirtual 212, 3) := by decide +kernel
theorem dX10_accesses_22 : decode cX10_accesses 22 = .ok (.goto 44, 3) := by decide +kernel
theorem dX10_accesses_25 : decode cX10_accesses 25 = .ok (.aload_n 0, 1) := by decide +kernel
theorem dX10_accesses_26 : decode cX10_accesses 26 = .ok (.dup, 1) := by decide +kernel
theorem dX10_accesses_27 : decode cX10_accesses 27 = .ok (.getfield 215, 3) := by decide +kernel
theorem dX10_accesses_30 : decode cX10_accesses 30 = .ok (.iconst 1, 1) := by decide +kernel
theorem dX10_accesses_31 : decode cX10_accesses 31 = .ok (.iadd, 1) := by decide +kernel
theorem dX10_accesses_32 : decode cX10_accesses 32 = .ok (.putfield 215, 3) := by decide +kernel
theorem dX10_accesses_35 : decode cX10_accesses 35 = .ok (.iconst 4, 1) := by decide +kernel
theorem dX10_accesses_36 : decode cX10_accesses 36 = .ok (.iload_n 1, 1) := by decide +kernel
theorem dX10_accesses_37 : decode cX10_accesses 37 = .ok (.imul, 1) := by decide +kernel
theorem dX10_accesses_38 : decode cX10_accesses 38 = .ok (.istore_n 3, 1) := by decide +kernel
theorem dX10_accesses_39 : decode cX10_accesses 39 = .ok (.iload_n 3, 1) := by decide +kernel
theorem dX10_accesses_40 : decode cX10_accesses 40 = .ok (.iconst 4, 1) := by decide +kernel
theorem dX10_accesses_41 : decode cX10_accesses 41 = .ok (.iload_n 1, 1) := by decide +kernel
theorem dX10_accesses_42 : decode cX10_accesses 42 = .ok (.imul, 1) := by decide +kernel
theorem dX10_accesses_43 : decode cX10_accesses 43 = .ok (.iconst 4, 1) := by decide +kernel
theorem dX10_accesses_44 : decode cX10_accesses 44 = .ok (.iadd, 1) := by decide +kernel
theorem dX10_accesses_45 : decode cX10_accesses 45 = .ok (.if_icmp .ge 21, 3) := by decide +kernel
theorem dX10_accesses_48 : decode cX10_accesses 48 = .ok (.aload_n 0, 1) := by decide +kernel
theorem dX10_accesses_49 : decode cX10_accesses 49 = .ok (.getfield 72, 3) := by decide +kernel
theorem dX10_accesses_52 : decode cX10_accesses 52 = .ok (.iload_n 3, 1) := by decide +kernel
theorem dX10_accesses_53 : decode cX10_accesses 53 = .ok (.aload_n 0, 1) := by decide +kernel
theorem dX10_accesses_54 : decode cX10_accesses 54 = .ok (.getfield 69, 3) := by decide +kernel
theorem dX10_accesses_57 : decode cX10_accesses 57 = .ok (.iload_n 3, 1) := by decide +kernel
theorem dX10_accesses_58 : decode cX10_accesses 58 = .ok (.iaload, 1) := by decide +kernel
theorem dX10_accesses_59 : decode cX10_accesses 59 = .ok (.iastore, 1) := by decide +kernel
theorem dX10_accesses_60 : decode cX10_accesses 60 = .ok (.iinc 3 1, 3) := by decide +kernel
theorem dX10_accesses_63 : decode cX10_accesses 63 = .ok (.goto (-24), 3) := by decide +kernel
theorem dX10_accesses_66 : decode cX10_accesses 66 = .ok (.aload_n 0, 1) := by decide +kernel
theorem dX10_accesses_67 : decode cX10_accesses 67 = .ok (.getfield 75, 3) := by decide +kernel
theorem dX10_accesses_70 : decode cX10_accesses 70 = .ok (.aload_n 0, 1) := by decide +kernel
theorem dX10_accesses_71 : decode cX10_accesses 71 = .ok (.getfield 203, 3) := by decide +kernel
theorem dX10_accesses_74 : decode cX10_accesses 74 = .ok (.iload_n 1, 1) := by decide +kernel
theorem dX10_accesses_75 : decode cX10_accesses 75 = .ok (.iastore, 1) := by decide +kernel
theorem dX10_accesses_76 : decode cX10_accesses 76 = .ok (.aload_n 0, 1) := by decide +kernel
theorem dX10_accesses_77 : decode cX10_accesses 77 = .ok (.dup, 1) := by decide +kernel
theorem dX10_accesses_78 : decode cX10_accesses 78 = .ok (.getfield 203, 3) := by decide +kernel
theorem dX10_accesses_81 : decode cX10_accesses 81 = .ok (.iconst 1, 1) := by decide +kernel
theorem dX10_accesses_82 : decode cX10_accesses 82 = .ok (.iadd, 1) := by decide +kernel
theorem dX10_accesses_83 : decode cX10_accesses 83 = .ok (.putfield 203, 3) := by decide +kernel
theorem dX10_accesses_86 : decode cX10_accesses 86 = .ok (.aload_n 0, 1) := by decide +kernel
theorem dX10_accesses_87 : decode cX10_accesses 87 = .ok (.getfield 203, 3) := by decide +kernel
theorem dX10_accesses_90 : decode cX10_accesses 90 = .ok (.aload_n 0, 1) := by decide +kernel
theorem dX10_accesses_91 : decode cX10_accesses 91 = .ok (.getfield 81, 3) := by decide +kernel
theorem dX10_accesses_94 : decode cX10_accesses 94 = .ok (.if_icmp .gt 4, 3) := by decide +kernel
theorem dX10_accesses_97 : decode cX10_accesses 97 = .ok (.return_, 1) := by decide +kernel
theorem dX10_accesses_98 : decode cX10_accesses 98 = .ok (.aload_n 0, 1) := by decide +kernel
theorem dX10_accesses_99 : decode cX10_accesses 99 = .ok (.aload_n 0, 1) := by decide +kernel
theorem dX10_accesses_100 : decode cX10_accesses 100 = .ok (.getfield 75, 3) := by decide +kernel
theorem dX10_accesses_103 : decode cX10_accesses 103 = .ok (.iconst 0, 1) := by decide +kernel
theorem dX10_accesses_104 : decode cX10_accesses 104 = .ok (.iaload, 1) := by decide +kernel
theorem dX10_accesses_105 : decode cX10_accesses 105 = .ok (.invokevirtual 218, 3) := by decide +kernel
theorem dX10_accesses_108 : decode cX10_accesses 108 = .ok (.pop, 1) := by decide +kernel
theorem dX10_accesses_109 : decode cX10_accesses 109 = .ok (.aload_n 0, 1) := by decide +kernel
theorem dX10_accesses_110 : decode cX10_accesses 110 = .ok (.iconst 0, 1) := by decide +kernel
theorem dX10_accesses_111 : decode cX10_accesses 111 = .ok (.invokevirtual 212, 3) := by decide +kernel
theorem dX10_accesses_114 : decode cX10_accesses 114 = .ok (.return_, 1) := by decide +kernel
theorem dX10_does_0 : decode cX10_does 0 = .ok (.iload_n 1, 1) := by decide +kernel
theorem dX10_does_1 : decode cX10_does 1 = .ok (.bipush 99, 2) := by decide +kernel
theorem dX10_does_3 : decode cX10_does 3 = .ok (.if_icmp .ne 9, 3) := by decide +kernel
theorem dX10_does_6 : decode cX10_does 6 = .ok (.aload_n 0, 1) := by decide +kernel
theorem dX10_does_7 : decode cX10_does 7 = .ok (.iload_n 2, 1) := by decide +kernel
theorem dX10_does_8 : decode cX10_does 8 = .ok (.putfield 221, 3) := by decide +kernel
theorem dX10_does_11 : decode cX10_does 11 = .ok (.return_, 1) := by decide +kernel
theorem dX10_does_12 : decode cX10_does 12 = .ok (.aload_n 0, 1) := by decide +kernel
theorem dX10_does_13 : decode cX10_does 13 = .ok (.iload_n 2, 1) := by decide +kernel
theorem dX10_does_14 : decode cX10_does 14 = .ok (.iconst 4, 1) := by decide +kernel
theorem dX10_does_15 : decode cX10_does 15 = .ok (.idiv, 1) := by decide +kernel
theorem dX10_does_16 : decode cX10_does 16 = .ok (.invokevirtual 224, 3) := by decide +kernel
theorem dX10_does_19 : decode cX10_does 19 = .ok (.iload_n 1, 1) := by decide +kernel
theorem dX10_does_20 : decode cX10_does 20 = .ok (.bipush 108, 2) := by decide +kernel
theorem dX10_does_22 : decode cX10_does 22 = .ok (.if_icmp .ne 13, 3) := by decide +kernel
theorem dX10_does_25 : decode cX10_does 25 = .ok (.aload_n 0, 1) := by decide +kernel
theorem dX10_does_26 : decode cX10_does 26 = .ok (.aload_n 0, 1) := by decide +kernel
theorem dX10_does_27 : decode cX10_does 27 = .ok (.getfield 72, 3) := by decide +kernel
theorem dX10_does_30 : decode cX10_does 30 = .ok (.iload_n 2, 1) := by decide +kernel
theorem dX10_does_31 : decode cX10_does 31 = .ok (.iaload, 1) := by decide +kernel
theorem dX10_does_32 : decode cX10_does 32 = .ok (.putfield 221, 3) := by decide +kernel
theorem dX10_does_35 : decode cX10_does 35 = .ok (.iload_n 1, 1) := by decide +kernel
theorem dX10_does_36 : decode cX10_does 36 = .ok (.bipush 97, 2) := by decide +kernel
theorem dX10_does_38 : decode cX10_does 38 = .ok (.if_icmp .ne 18, 3) := by decide +kernel
theorem dX10_does_41 : decode cX10_does 41 = .ok (.aload_n 0, 1) := by decide +kernel
theorem dX10_does_42 : decode cX10_does 42 = .ok (.dup, 1) := by decide +kernel
theorem dX10_does_43 : decode cX10_does 43 = .ok (.getfield 221, 3) := by decide +kernel
theorem dX10_does_46 : decode cX10_does 46 = .ok (.aload_n 0, 1) := by decide +kernel
theorem dX10_does_47 : decode cX10_does 47 = .ok (.getfield 72, 3) := by decide +kernel
theorem dX10_does_50 : decode cX10_does 50 = .ok (.iload_n 2, 1) := by decide +kernel
theorem dX10_does_51 : decode cX10_does 51 = .ok (.iaload, 1) := by decide +kernel
theorem dX10_does_52 : decode cX10_does 52 = .ok (.iadd, 1) := by decide +kernel
theorem dX10_does_53 : decode cX10_does 53 = .ok (.putfield 221, 3) := by decide +kernel
theorem dX10_does_56 : decode cX10_does 56 = .ok (.iload_n 1, 1) := by decide +kernel
theorem dX10_does_57 : decode cX10_does 57 = .ok (.bipush 115, 2) := by decide +kernel
theorem dX10_does_59 : decode cX10_does 59 = .ok (.if_icmp .eq 4, 3) := by decide +kernel
theorem dX10_does_62 : decode cX10_does 62 = .ok (.return_, 1) := by decide +kernel
theorem dX10_does_63 : decode cX10_does 63 = .ok (.aload_n 0, 1) := by decide +kernel
theorem dX10_does_64 : decode cX10_does 64 = .ok (.getfield 72, 3) := by decide +kernel
theorem dX10_does_67 : decode cX10_does 67 = .ok (.iload_n 2, 1) := by decide +kernel
theorem dX10_does_68 : decode cX10_does 68 = .ok (.aload_n 0, 1) := by decide +kernel
theorem dX10_does_69 : decode cX10_does 69 = .ok (.getfield 221, 3) := by decide +kernel
theorem dX10_does_72 : decode cX10_does 72 = .ok (.iastore, 1) := by decide +kernel
theorem dX10_does_73 : decode cX10_does 73 = .ok (.aload_n 0, 1) := by decide +kernel
theorem dX10_does_74 : decode cX10_does 74 = .ok (.getfield 78, 3) := by decide +kernel
theorem dX10_does_77 : decode cX10_does 77 = .ok (.iload_n 2, 1) := by decide +kernel
theorem dX10_does_78 : decode cX10_does 78 = .ok (.iconst 4, 1) := by decide +kernel
theorem dX10_does_79 : decode cX10_does 79 = .ok (.idiv, 1) := by decide +kernel
theorem dX10_does_80 : decode cX10_does 80 = .ok (.iconst 1, 1) := by decide +kernel
theorem dX10_does_81 : decode cX10_does 81 = .ok (.bastore, 1) := by decide +kernel
theorem dX10_does_82 : decode cX10_does 82 = .ok (.return_, 1) := by decide +kernel
theorem dX10_writesAll_0 : decode cX10_writesAll 0 = .ok (.iconst 0, 1) := by decide +kernel
theorem dX10_writesAll_1 : decode cX10_writesAll 1 = .ok (.istore_n 1, 1) := by decide +kernel
theorem dX10_writesAll_2 : decode cX10_writesAll 2 = .ok (.iconst 0, 1) := by decide +kernel
theorem dX10_writesAll_3 : decode cX10_writesAll 3 = .ok (.istore_n 2, 1) := by decide +kernel
theorem dX10_writesAll_4 : decode cX10_writesAll 4 = .ok (.iload_n 2, 1) := by decide +kernel
theorem dX10_writesAll_5 : decode cX10_writesAll 5 = .ok (.bipush 16, 2) := by decide +kernel
theorem dX10_writesAll_7 : decode cX10_writesAll 7 = .ok (.if_icmp .ge 17, 3) := by decide +kernel
theorem dX10_writesAll_10 : decode cX10_writesAll 10 = .ok (.iload_n 1, 1) := by decide +kernel
theorem dX10_writesAll_11 : decode cX10_writesAll 11 = .ok (.aload_n 0, 1) := by decide +kernel
theorem dX10_writesAll_12 : decode cX10_writesAll 12 = .ok (.iload_n 2, 1) := by decide +kernel
theorem dX10_writesAll_13 : decode cX10_writesAll 13 = .ok (.invokevirtual 218, 3) := by decide +kernel
theorem dX10_writesAll_16 : decode cX10_writesAll 16 = .ok (.iadd, 1) := by decide +kernel
theorem dX10_writesAll_17 : decode cX10_writesAll 17 = .ok (.istore_n 1, 1) := by decide +kernel
theorem dX10_writesAll_18 : decode cX10_writesAll 18 = .ok (.iinc 2 1, 3) := by decide +kernel
theorem dX10_writesAll_21 : decode cX10_writesAll 21 = .ok (.goto (-17), 3) := by decide +kernel
theorem dX10_writesAll_24 : decode cX10_writesAll 24 = .ok (.iload_n 1, 1) := by decide +kernel
theorem dX10_writesAll_25 : decode cX10_writesAll 25 = .ok (.ireturn, 1) := by decide +kernel
theorem dX10_setFrames_0 : decode cX10_setFrames 0 = .ok (.aload_n 0, 1) := by decide +kernel
theorem dX10_setFrames_1 : decode cX10_setFrames 1 = .ok (.iconst 0, 1) := by decide +kernel
theorem dX10_setFrames_2 : decode cX10_setFrames 2 = .ok (.putfield 1, 3) := by decide +kernel
theorem dX10_setFrames_5 : decode cX10_setFrames 5 = .ok (.aload_n 0, 1) := by decide +kernel
theorem dX10_setFrames_6 : decode cX10_setFrames 6 = .ok (.iload_n 1, 1) := by decide +kernel
theorem dX10_setFrames_7 : decode cX10_setFrames 7 = .ok (.iconst 1, 1) := by decide +kernel
theorem dX10_setFrames_8 : decode cX10_setFrames 8 = .ok (.bipush 8, 2) := by decide +kernel
theorem dX10_setFrames_10 : decode cX10_setFrames 10 = .ok (.invokestatic 84, 3) := by decide +kernel
theorem dX10_setFrames_13 : decode cX10_setFrames 13 = .ok (.iconst 1, 1) := by decide +kernel
theorem dX10_setFrames_14 : decode cX10_setFrames 14 = .ok (.invokevirtual 88, 3) := by decide +kernel
theorem dX10_setFrames_17 : decode cX10_setFrames 17 = .ok (.ifCond .eq 5, 3) := by decide +kernel
theorem dX10_setFrames_20 : decode cX10_setFrames 20 = .ok (.iconst 0, 1) := by decide +kernel
theorem dX10_setFrames_21 : decode cX10_setFrames 21 = .ok (.ireturn, 1) := by decide +kernel
theorem dX10_setFrames_22 : decode cX10_setFrames 22 = .ok (.aload_n 0, 1) := by decide +kernel
theorem dX10_setFrames_23 : decode cX10_setFrames 23 = .ok (.invokevirtual 227, 3) := by decide +kernel
theorem dX10_setFrames_26 : decode cX10_setFrames 26 = .ok (.istore_n 2, 1) := by decide +kernel
theorem dX10_setFrames_27 : decode cX10_setFrames 27 = .ok (.aload_n 0, 1) := by decide +kernel
theorem dX10_setFrames_28 : decode cX10_setFrames 28 = .ok (.iconst 0, 1) := by decide +kernel
theorem dX10_setFrames_29 : decode cX10_setFrames 29 = .ok (.putfield 203, 3) := by decide +kernel
theorem dX10_setFrames_32 : decode cX10_setFrames 32 = .ok (.aload_n 0, 1) := by decide +kernel
theorem dX10_setFrames_33 : decode cX10_setFrames 33 = .ok (.iload_n 1, 1) := by decide +kernel
theorem dX10_setFrames_34 : decode cX10_setFrames 34 = .ok (.putfield 81, 3) := by decide +kernel
theorem dX10_setFrames_37 : decode cX10_setFrames 37 = .ok (.iload_n 2, 1) := by decide +kernel
theorem dX10_setFrames_38 : decode cX10_setFrames 38 = .ok (.ireturn, 1) := by decide +kernel
theorem dX10_flush_0 : decode cX10_flush 0 = .ok (.aload_n 0, 1) := by decide +kernel
theorem dX10_flush_1 : decode cX10_flush 1 = .ok (.iconst 0, 1) := by decide +kernel
theorem dX10_flush_2 : decode cX10_flush 2 = .ok (.putfield 1, 3) := by decide +kernel
theorem dX10_flush_5 : decode cX10_flush 5 = .ok (.aload_n 0, 1) := by decide +kernel
theorem dX10_flush_6 : decode cX10_flush 6 = .ok (.invokevirtual 227, 3) := by decide +kernel
theorem dX10_flush_9 : decode cX10_flush 9 = .ok (.ireturn, 1) := by decide +kernel
theorem dX10_accumulator_0 : decode cX10_accumulator 0 = .ok (.aload_n 0, 1) := by decide +kernel
theorem dX10_accumulator_1 : decode cX10_accumulator 1 = .ok (.iconst 0, 1) := by decide +kernel
theorem dX10_accumulator_2 : decode cX10_accumulator 2 = .ok (.putfield 1, 3) := by decide +kernel
theorem dX10_accumulator_5 : decode cX10_accumulator 5 = .ok (.aload_n 0, 1) := by decide +kernel
theorem dX10_accumulator_6 : decode cX10_accumulator 6 = .ok (.getfield 221, 3) := by decide +kernel
theorem dX10_accumulator_9 : decode cX10_accumulator 9 = .ok (.ireturn, 1) := by decide +kernel
theorem dX10_noAddress_0 : decode cX10_noAddress 0 = .ok (.aload_n 0, 1) := by decide +kernel
theorem dX10_noAddress_1 : decode cX10_noAddress 1 = .ok (.iload_n 1, 1) := by decide +kernel
theorem dX10_noAddress_2 : decode cX10_noAddress 2 = .ok (.iconst 0, 1) := by decide +kernel
theorem dX10_noAddress_3 : decode cX10_noAddress 3 = .ok (.bipush 63, 2) := by decide +kernel
theorem dX10_noAddress_5 : decode cX10_noAddress 5 = .ok (.invokestatic 84, 3) := by decide +kernel
theorem dX10_noAddress_8 : decode cX10_noAddress 8 = .ok (.iconst 1, 1) := by decide +kernel
theorem dX10_noAddress_9 : decode cX10_noAddress 9 = .ok (.invokevirtual 88, 3) := by decide +kernel
theorem dX10_noAddress_12 : decode cX10_noAddress 12 = .ok (.ireturn, 1) := by decide +kernel
theorem dX10_wordAt_0 : decode cX10_wordAt 0 = .ok (.aload_n 0, 1) := by decide +kernel
theorem dX10_wordAt_1 : decode cX10_wordAt 1 = .ok (.iconst 0, 1) := by decide +kernel
theorem dX10_wordAt_2 : decode cX10_wordAt 2 = .ok (.putfield 1, 3) := by decide +kernel
theorem dX10_wordAt_5 : decode cX10_wordAt 5 = .ok (.aload_n 0, 1) := by decide +kernel
theorem dX10_wordAt_6 : decode cX10_wordAt 6 = .ok (.iload_n 1, 1) := by decide +kernel
theorem dX10_wordAt_7 : decode cX10_wordAt 7 = .ok (.invokevirtual 230, 3) := by decide +kernel
theorem dX10_wordAt_10 : decode cX10_wordAt 10 = .ok (.ifCond .eq 7, 3) := by decide +kernel
theorem dX10_wordAt_13 : decode cX10_wordAt 13 = .ok (.iconst 0, 1) := by decide +kernel
theorem dX10_wordAt_14 : decode cX10_wordAt 14 = .ok (.goto 29, 3) := by decide +kernel
theorem dX10_wordAt_17 : decode cX10_wordAt 17 = .ok (.aload_n 0, 1) := by decide +kernel
theorem dX10_wordAt_18 : decode cX10_wordAt 18 = .ok (.iload_n 1, 1) := by decide +kernel
theorem dX10_wordAt_19 : decode cX10_wordAt 19 = .ok (.iconst 4, 1) := by decide +kernel
theorem dX10_wordAt_20 : decode cX10_wordAt 20 = .ok (.idiv, 1) := by decide +kernel
theorem dX10_wordAt_21 : decode cX10_wordAt 21 = .ok (.invokevirtual 209, 3) := by decide +kernel
theorem dX10_wordAt_24 : decode cX10_wordAt 24 = .ok (.iconst (-1), 1) := by decide +kernel
theorem dX10_wordAt_25 : decode cX10_wordAt 25 = .ok (.if_icmp .eq 12, 3) := by decide +kernel
theorem dX10_wordAt_28 : decode cX10_wordAt 28 = .ok (.aload_n 0, 1) := by decide +kernel
theorem dX10_wordAt_29 : decode cX10_wordAt 29 = .ok (.getfield 72, 3) := by decide +kernel
theorem dX10_wordAt_32 : decode cX10_wordAt 32 = .ok (.iload_n 1, 1) := by decide +kernel
theorem dX10_wordAt_33 : decode cX10_wordAt 33 = .ok (.iaload, 1) := by decide +kernel
theorem dX10_wordAt_34 : decode cX10_wordAt 34 = .ok (.goto 9, 3) := by decide +kernel
theorem dX10_wordAt_37 : decode cX10_wordAt 37 = .ok (.aload_n 0, 1) := by decide +kernel
theorem dX10_wordAt_38 : decode cX10_wordAt 38 = .ok (.getfield 69, 3) := by decide +kernel
theorem dX10_wordAt_41 : decode cX10_wordAt 41 = .ok (.iload_n 1, 1) := by decide +kernel
theorem dX10_wordAt_42 : decode cX10_wordAt 42 = .ok (.iaload, 1) := by decide +kernel
theorem dX10_wordAt_43 : decode cX10_wordAt 43 = .ok (.ireturn, 1) := by decide +kernel
theorem dX10_discAt_0 : decode cX10_discAt 0 = .ok (.aload_n 0, 1) := by decide +kernel
theorem dX10_discAt_1 : decode cX10_discAt 1 = .ok (.iconst 0, 1) := by decide +kernel
theorem dX10_discAt_2 : decode cX10_discAt 2 = .ok (.putfield 1, 3) := by decide +kernel
theorem dX10_discAt_5 : decode cX10_discAt 5 = .ok (.aload_n 0, 1) := by decide +kernel
theorem dX10_discAt_6 : decode cX10_discAt 6 = .ok (.iload_n 1, 1) := by decide +kernel
theorem dX10_discAt_7 : decode cX10_discAt 7 = .ok (.invokevirtual 230, 3) := by decide +kernel
theorem dX10_discAt_10 : decode cX10_discAt 10 = .ok (.ifCond .eq 7, 3) := by decide +kernel
theorem dX10_discAt_13 : decode cX10_discAt 13 = .ok (.iconst 0, 1) := by decide +kernel
theorem dX10_discAt_14 : decode cX10_discAt 14 = .ok (.goto 9, 3) := by decide +kernel
theorem dX10_discAt_17 : decode cX10_discAt 17 = .ok (.aload_n 0, 1) := by decide +kernel
theorem dX10_discAt_18 : decode cX10_discAt 18 = .ok (.getfield 69, 3) := by decide +kernel
theorem dX10_discAt_21 : decode cX10_discAt 21 = .ok (.iload_n 1, 1) := by decide +kernel
theorem dX10_discAt_22 : decode cX10_discAt 22 = .ok (.iaload, 1) := by decide +kernel
theorem dX10_discAt_23 : decode cX10_discAt 23 = .ok (.ireturn, 1) := by decide +kernel
theorem dX10_resident_0 : decode cX10_resident 0 = .ok (.aload_n 0, 1) := by decide +kernel
theorem dX10_resident_1 : decode cX10_resident 1 = .ok (.iconst 0, 1) := by decide +kernel
theorem dX10_resident_2 : decode cX10_resident 2 = .ok (.putfield 1, 3) := by decide +kernel
theorem dX10_resident_5 : decode cX10_resident 5 = .ok (.aload_n 0, 1) := by decide +kernel
theorem dX10_resident_6 : decode cX10_resident 6 = .ok (.getfield 203, 3) := by decide +kernel
theorem dX10_resident_9 : decode cX10_resident 9 = .ok (.ireturn, 1) := by decide +kernel
theorem dX10_residentAt_0 : decode cX10_residentAt 0 = .ok (.aload_n 0, 1) := by decide +kernel
theorem dX10_residentAt_1 : decode cX10_residentAt 1 = .ok (.iconst 0, 1) := by decide +kernel
theorem dX10_residentAt_2 : decode cX10_residentAt 2 = .ok (.putfield 1, 3) := by decide +kernel
theorem dX10_residentAt_5 : decode cX10_residentAt 5 = .ok (.aload_n 0, 1) := by decide +kernel
theorem dX10_residentAt_6 : decode cX10_residentAt 6 = .ok (.iload_n 1, 1) := by decide +kernel
theorem dX10_residentAt_7 : decode cX10_residentAt 7 = .ok (.iconst 0, 1) := by decide +kernel
theorem dX10_residentAt_8 : decode cX10_residentAt 8 = .ok (.aload_n 0, 1) := by decide +kernel
theorem dX10_residentAt_9 : decode cX10_residentAt 9 = .ok (.getfield 203, 3) := by decide +kernel
theorem dX10_residentAt_12 : decode cX10_residentAt 12 = .ok (.iconst 1, 1) := by decide +kernel
theorem dX10_residentAt_13 : decode cX10_residentAt 13 = .ok (.isub, 1) := by decide +kernel
theorem dX10_residentAt_14 : decode cX10_residentAt 14 = .ok (.invokestatic 84, 3) := by decide +kernel
theorem dX10_residentAt_17 : decode cX10_residentAt 17 = .ok (.iconst 1, 1) := by decide +kernel
theorem dX10_residentAt_18 : decode cX10_residentAt 18 = .ok (.invokevirtual 88, 3) := by decide +kernel
theorem dX10_residentAt_21 : decode cX10_residentAt 21 = .ok (.ifCond .eq 7, 3) := by decide +kernel
theorem dX10_residentAt_24 : decode cX10_residentAt 24 = .ok (.iconst 0, 1) := by decide +kernel
theorem dX10_residentAt_25 : decode cX10_residentAt 25 = .ok (.goto 9, 3) := by decide +kernel
theorem dX10_residentAt_28 : decode cX10_residentAt 28 = .ok (.aload_n 0, 1) := by decide +kernel
theorem dX10_residentAt_29 : decode cX10_residentAt 29 = .ok (.getfield 75, 3) := by decide +kernel
theorem dX10_residentAt_32 : decode cX10_residentAt 32 = .ok (.iload_n 1, 1) := by decide +kernel
theorem dX10_residentAt_33 : decode cX10_residentAt 33 = .ok (.iaload, 1) := by decide +kernel
theorem dX10_residentAt_34 : decode cX10_residentAt 34 = .ok (.ireturn, 1) := by decide +kernel
theorem dX10_isDirty_0 : decode cX10_isDirty 0 = .ok (.aload_n 0, 1) := by decide +kernel
theorem dX10_isDirty_1 : decode cX10_isDirty 1 = .ok (.iconst 0, 1) := by decide +kernel
theorem dX10_isDirty_2 : decode cX10_isDirty 2 = .ok (.putfield 1, 3) := by decide +kernel
theorem dX10_isDirty_5 : decode cX10_isDirty 5 = .ok (.aload_n 0, 1) := by decide +kernel
theorem dX10_isDirty_6 : decode cX10_isDirty 6 = .ok (.iload_n 1, 1) := by decide +kernel
theorem dX10_isDirty_7 : decode cX10_isDirty 7 = .ok (.iconst 0, 1) := by decide +kernel
theorem dX10_isDirty_8 : decode cX10_isDirty 8 = .ok (.bipush 15, 2) := by decide +kernel
theorem dX10_isDirty_10 : decode cX10_isDirty 10 = .ok (.invokestatic 84, 3) := by decide +kernel
theorem dX10_isDirty_13 : decode cX10_isDirty 13 = .ok (.iconst 1, 1) := by decide +kernel
theorem dX10_isDirty_14 : decode cX10_isDirty 14 = .ok (.invokevirtual 88, 3) := by decide +kernel
theorem dX10_isDirty_17 : decode cX10_isDirty 17 = .ok (.ifCond .ne 16, 3) := by decide +kernel
theorem dX10_isDirty_20 : decode cX10_isDirty 20 = .ok (.aload_n 0, 1) := by decide +kernel
theorem dX10_isDirty_21 : decode cX10_isDirty 21 = .ok (.getfield 78, 3) := by decide +kernel
theorem dX10_isDirty_24 : decode cX10_isDirty 24 = .ok (.iload_n 1, 1) := by decide +kernel
theorem dX10_isDirty_25 : decode cX10_isDirty 25 = .ok (.baload, 1) := by decide +kernel
theorem dX10_isDirty_26 : decode cX10_isDirty 26 = .ok (.ifCond .eq 7, 3) := by decide +kernel
theorem dX10_isDirty_29 : decode cX10_isDirty 29 = .ok (.iconst 1, 1) := by decide +kernel
theorem dX10_isDirty_30 : decode cX10_isDirty 30 = .ok (.goto 4, 3) := by decide +kernel
theorem dX10_isDirty_33 : decode cX10_isDirty 33 = .ok (.iconst 0, 1) := by decide +kernel
theorem dX10_isDirty_34 : decode cX10_isDirty 34 = .ok (.ireturn, 1) := by decide +kernel
theorem dX10_faults_0 : decode cX10_faults 0 = .ok (.aload_n 0, 1) := by decide +kernel
theorem dX10_faults_1 : decode cX10_faults 1 = .ok (.iconst 0, 1) := by decide +kernel
theorem dX10_faults_2 : decode cX10_faults 2 = .ok (.putfield 1, 3) := by decide +kernel
theorem dX10_faults_5 : decode cX10_faults 5 = .ok (.aload_n 0, 1) := by decide +kernel
theorem dX10_faults_6 : decode cX10_faults 6 = .ok (.getfield 215, 3) := by decide +kernel
theorem dX10_faults_9 : decode cX10_faults 9 = .ok (.ireturn, 1) := by decide +kernel
theorem dX10_writes_0 : decode cX10_writes 0 = .ok (.aload_n 0, 1) := by decide +kernel
theorem dX10_writes_1 : decode cX10_writes 1 = .ok (.iconst 0, 1) := by decide +kernel
theorem dX10_writes_2 : decode cX10_writes 2 = .ok (.putfield 1, 3) := by decide +kernel
theorem dX10_writes_5 : decode cX10_writes 5 = .ok (.aload_n 0, 1) := by decide +kernel
theorem dX10_writes_6 : decode cX10_writes 6 = .ok (.getfield 206, 3) := by decide +kernel
theorem dX10_writes_9 : decode cX10_writes 9 = .ok (.ireturn, 1) := by decide +kernel
theorem dX10_hitShare_0 : decode cX10_hitShare 0 = .ok (.aload_n 0, 1) := by decide +kernel
theorem dX10_hitShare_1 : decode cX10_hitShare 1 = .ok (.iconst 0, 1) := by decide +kernel
theorem dX10_hitShare_2 : decode cX10_hitShare 2 = .ok (.putfield 1, 3) := by decide +kernel
theorem dX10_hitShare_5 : decode cX10_hitShare 5 = .ok (.aload_n 0, 1) := by decide +kernel
theorem dX10_hitShare_6 : decode cX10_hitShare 6 = .ok (.iload_n 1, 1) := by decide +kernel
theorem dX10_hitShare_7 : decode cX10_hitShare 7 = .ok (.invokevirtual 141, 3) := by decide +kernel
theorem dX10_hitShare_10 : decode cX10_hitShare 10 = .ok (.ifCond .ne 10, 3) := by decide +kernel
theorem dX10_hitShare_13 : decode cX10_hitShare 13 = .ok (.aload_n 0, 1) := by decide +kernel
theorem dX10_hitShare_14 : decode cX10_hitShare 14 = .ok (.getfield 127, 3) := by decide +kernel
theorem dX10_hitShare_17 : decode cX10_hitShare 17 = .ok (.ifCond .ne 5, 3) := by decide +kernel
theorem dX10_hitShare_20 : decode cX10_hitShare 20 = .ok (.fconst 0, 1) := by decide +kernel
theorem dX10_hitShare_21 : decode cX10_hitShare 21 = .ok (.freturn, 1) := by decide +kernel
theorem dX10_hitShare_22 : decode cX10_hitShare 22 = .ok (.aload_n 0, 1) := by decide +kernel
theorem dX10_hitShare_23 : decode cX10_hitShare 23 = .ok (.getfield 42, 3) := by decide +kernel
theorem dX10_hitShare_26 : decode cX10_hitShare 26 = .ok (.iload_n 1, 1) := by decide +kernel
theorem dX10_hitShare_27 : decode cX10_hitShare 27 = .ok (.iaload, 1) := by decide +kernel
theorem dX10_hitShare_28 : decode cX10_hitShare 28 = .ok (.i2f, 1) := by decide +kernel
theorem dX10_hitShare_29 : decode cX10_hitShare 29 = .ok (.aload_n 0, 1) := by decide +kernel
theorem dX10_hitShare_30 : decode cX10_hitShare 30 = .ok (.getfield 127, 3) := by decide +kernel
theorem dX10_hitShare_33 : decode cX10_hitShare 33 = .ok (.i2f, 1) := by decide +kernel
theorem dX10_hitShare_34 : decode cX10_hitShare 34 = .ok (.fdiv, 1) := by decide +kernel
theorem dX10_hitShare_35 : decode cX10_hitShare 35 = .ok (.freturn, 1) := by decide +kernel
theorem dX10_meanDistance_0 : decode cX10_meanDistance 0 = .ok (.aload_n 0, 1) := by decide +kernel
theorem dX10_meanDistance_1 : decode cX10_meanDistance 1 = .ok (.iconst 0, 1) := by decide +kernel
theorem dX10_meanDistance_2 : decode cX10_meanDistance 2 = .ok (.putfield 1, 3) := by decide +kernel
theorem dX10_meanDistance_5 : decode cX10_meanDistance 5 = .ok (.iconst 0, 1) := by decide +kernel
theorem dX10_meanDistance_6 : decode cX10_meanDistance 6 = .ok (.istore_n 1, 1) := by decide +kernel
theorem dX10_meanDistance_7 : decode cX10_meanDistance 7 = .ok (.iconst 0, 1) := by decide +kernel
theorem dX10_meanDistance_8 : decode cX10_meanDistance 8 = .ok (.istore_n 2, 1) := by decide +kernel
theorem dX10_meanDistance_9 : decode cX10_meanDistance 9 = .ok (.iconst 0, 1) := by decide +kernel
theorem dX10_meanDistance_10 : decode cX10_meanDistance 10 = .ok (.istore_n 3, 1) := by decide +kernel
theorem dX10_meanDistance_11 : decode cX10_meanDistance 11 = .ok (.iload_n 3, 1) := by decide +kernel
theorem dX10_meanDistance_12 : decode cX10_meanDistance 12 = .ok (.aload_n 0, 1) := by decide +kernel
theorem dX10_meanDistance_13 : decode cX10_meanDistance 13 = .ok (.getfield 127, 3) := by decide +kernel
theorem dX10_meanDistance_16 : decode cX10_meanDistance 16 = .ok (.if_icmp .ge 45, 3) := by decide +kernel
theorem dX10_meanDistance_19 : decode cX10_meanDistance 19 = .ok (.aload_n 0, 1) := by decide +kernel
theorem dX10_meanDistance_20 : decode cX10_meanDistance 20 = .ok (.iload_n 3, 1) := by decide +kernel
theorem dX10_meanDistance_21 : decode cX10_meanDistance 21 = .ok (.invokevirtual 147, 3) := by decide +kernel
theorem dX10_meanDistance_24 : decode cX10_meanDistance 24 = .ok (.istore 4, 2) := by decide +kernel
theorem dX10_meanDistance_26 : decode cX10_meanDistance 26 = .ok (.iload_n 1, 1) := by decide +kernel
theorem dX10_meanDistance_27 : decode cX10_meanDistance 27 = .ok (.iload 4, 2) := by decide +kernel
theorem dX10_meanDistance_29 : decode cX10_meanDistance 29 = .ok (.iconst (-1), 1) := by decide +kernel
theorem dX10_meanDistance_30 : decode cX10_meanDistance 30 = .ok (.if_icmp .ne 7, 3) := by decide +kernel
theorem dX10_meanDistance_33 : decode cX10_meanDistance 33 = .ok (.iconst 0, 1) := by decide +kernel
theorem dX10_meanDistance_34 : decode cX10_meanDistance 34 = .ok (.goto 5, 3) := by decide +kernel
theorem dX10_meanDistance_37 : decode cX10_meanDistance 37 = .ok (.iload 4, 2) := by decide +kernel
theorem dX10_meanDistance_39 : decode cX10_meanDistance 39 = .ok (.iadd, 1) := by decide +kernel
theorem dX10_meanDistance_40 : decode cX10_meanDistance 40 = .ok (.istore_n 1, 1) := by decide +kernel
theorem dX10_meanDistance_41 : decode cX10_meanDistance 41 = .ok (.iload_n 2, 1) := by decide +kernel
theorem dX10_meanDistance_42 : decode cX10_meanDistance 42 = .ok (.iload 4, 2) := by decide +kernel
theorem dX10_meanDistance_44 : decode cX10_meanDistance 44 = .ok (.iconst (-1), 1) := by decide +kernel
theorem dX10_meanDistance_45 : decode cX10_meanDistance 45 = .ok (.if_icmp .ne 7, 3) := by decide +kernel
theorem dX10_meanDistance_48 : decode cX10_meanDistance 48 = .ok (.iconst 0, 1) := by decide +kernel
theorem dX10_meanDistance_49 : decode cX10_meanDistance 49 = .ok (.goto 4, 3) := by decide +kernel
theorem dX10_meanDistance_52 : decode cX10_meanDistance 52 = .ok (.iconst 1, 1) := by decide +kernel
theorem dX10_meanDistance_53 : decode cX10_meanDistance 53 = .ok (.iadd, 1) := by decide +kernel
theorem dX10_meanDistance_54 : decode cX10_meanDistance 54 = .ok (.istore_n 2, 1) := by decide +kernel
theorem dX10_meanDistance_55 : decode cX10_meanDistance 55 = .ok (.iinc 3 1, 3) := by decide +kernel
theorem dX10_meanDistance_58 : decode cX10_meanDistance 58 = .ok (.goto (-47), 3) := by decide +kernel
theorem dX10_meanDistance_61 : decode cX10_meanDistance 61 = .ok (.iload_n 2, 1) := by decide +kernel
theorem dX10_meanDistance_62 : decode cX10_meanDistance 62 = .ok (.ifCond .ne 7, 3) := by decide +kernel
theorem dX10_meanDistance_65 : decode cX10_meanDistance 65 = .ok (.dconst 0, 1) := by decide +kernel
theorem dX10_meanDistance_66 : decode cX10_meanDistance 66 = .ok (.goto 8, 3) := by decide +kernel
theorem dX10_meanDistance_69 : decode cX10_meanDistance 69 = .ok (.iload_n 1, 1) := by decide +kernel
theorem dX10_meanDistance_70 : decode cX10_meanDistance 70 = .ok (.i2d, 1) := by decide +kernel
theorem dX10_meanDistance_71 : decode cX10_meanDistance 71 = .ok (.iload_n 2, 1) := by decide +kernel
theorem dX10_meanDistance_72 : decode cX10_meanDistance 72 = .ok (.i2d, 1) := by decide +kernel
theorem dX10_meanDistance_73 : decode cX10_meanDistance 73 = .ok (.ddiv, 1) := by decide +kernel
theorem dX10_meanDistance_74 : decode cX10_meanDistance 74 = .ok (.dreturn, 1) := by decide +kernel
theorem dX10_errors_0 : decode cX10_errors 0 = .ok (.aload_n 0, 1) := by decide +kernel
theorem dX10_errors_1 : decode cX10_errors 1 = .ok (.iconst 0, 1) := by decide +kernel
theorem dX10_errors_2 : decode cX10_errors 2 = .ok (.putfield 1, 3) := by decide +kernel
theorem dX10_errors_5 : decode cX10_errors 5 = .ok (.iconst 0, 1) := by decide +kernel
theorem dX10_errors_6 : decode cX10_errors 6 = .ok (.istore_n 1, 1) := by decide +kernel
theorem dX10_errors_7 : decode cX10_errors 7 = .ok (.iconst 1, 1) := by decide +kernel
theorem dX10_errors_8 : decode cX10_errors 8 = .ok (.istore_n 2, 1) := by decide +kernel
theorem dX10_errors_9 : decode cX10_errors 9 = .ok (.iload_n 2, 1) := by decide +kernel
theorem dX10_errors_10 : decode cX10_errors 10 = .ok (.bipush 8, 2) := by decide +kernel
theorem dX10_errors_12 : decode cX10_errors 12 = .ok (.if_icmp .gt 98, 3) := by decide +kernel
theorem dX10_errors_15 : decode cX10_errors 15 = .ok (.aload_n 0, 1) := by decide +kernel
theorem dX10_errors_16 : decode cX10_errors 16 = .ok (.getfield 42, 3) := by decide +kernel
theorem dX10_errors_19 : decode cX10_errors 19 = .ok (.iload_n 2, 1) := by decide +kernel
theorem dX10_errors_20 : decode cX10_errors 20 = .ok (.iaload, 1) := by decide +kernel
theorem dX10_errors_21 : decode cX10_errors 21 = .ok (.aload_n 0, 1) := by decide +kernel
theorem dX10_errors_22 : decode cX10_errors 22 = .ok (.iload_n 2, 1) := by decide +kernel
theorem dX10_errors_23 : decode cX10_errors 23 = .ok (.invokevirtual 150, 3) := by decide +kernel
theorem dX10_errors_26 : decode cX10_errors 26 = .ok (.if_icmp .ne 7, 3) := by decide +kernel
theorem dX10_errors_29 : decode cX10_errors 29 = .ok (.iconst 1, 1) := by decide +kernel
theorem dX10_errors_30 : decode cX10_errors 30 = .ok (.goto 4, 3) := by decide +kernel
theorem dX10_errors_33 : decode cX10_errors 33 = .ok (.iconst 0, 1) := by decide +kernel
theorem dX10_errors_34 : decode cX10_errors 34 = .ok (.istore_n 3, 1) := by decide +kernel
theorem dX10_errors_35 : decode cX10_errors 35 = .ok (.iconst 0, 1) := by decide +kernel
theorem dX10_errors_36 : decode cX10_errors 36 = .ok (.istore 4, 2) := by decide +kernel
theorem dX10_errors_38 : decode cX10_errors 38 = .ok (.iload 4, 2) := by decide +kernel
theorem dX10_errors_40 : decode cX10_errors 40 = .ok (.aload_n 0, 1) := by decide +kernel
theorem dX10_errors_41 : decode cX10_errors 41 = .ok (.getfield 39, 3) := by decide +kernel
theorem dX10_errors_44 : decode cX10_errors 44 = .ok (.iload_n 2, 1) := by decide +kernel
theorem dX10_errors_45 : decode cX10_errors 45 = .ok (.iaload, 1) := by decide +kernel
theorem dX10_errors_46 : decode cX10_errors 46 = .ok (.if_icmp .ge 46, 3) := by decide +kernel
theorem dX10_errors_49 : decode cX10_errors 49 = .ok (.iload_n 2, 1) := by decide +kernel
theorem dX10_errors_50 : decode cX10_errors 50 = .ok (.bipush 8, 2) := by decide +kernel
theorem dX10_errors_52 : decode cX10_errors 52 = .ok (.if_icmp .ge 40, 3) := by decide +kernel
theorem dX10_errors_55 : decode cX10_errors 55 = .ok (.iload_n 3, 1) := by decide +kernel
theorem dX10_errors_56 : decode cX10_errors 56 = .ok (.aload_n 0, 1) := by decide +kernel
theorem dX10_errors_57 : decode cX10_errors 57 = .ok (.iload_n 2, 1) := by decide +kernel
theorem dX10_errors_58 : decode cX10_errors 58 = .ok (.iconst 1, 1) := by decide +kernel
theorem dX10_errors_59 : decode cX10_errors 59 = .ok (.iadd, 1) := by decide +kernel
theorem dX10_errors_60 : decode cX10_errors 60 = .ok (.aload_n 0, 1) := by decide +kernel
theorem dX10_errors_61 : decode cX10_errors 61 = .ok (.getfield 36, 3) := by decide +kernel
theorem dX10_errors_64 : decode cX10_errors 64 = .ok (.bipush 9, 2) := by decide +kernel
theorem dX10_errors_66 : decode cX10_errors 66 = .ok (.iload_n 2, 1) := by decide +kernel
theorem dX10_errors_67 : decode cX10_errors 67 = .ok (.imul, 1) := by decide +kernel
theorem dX10_errors_68 : decode cX10_errors 68 = .ok (.iload 4, 2) := by decide +kernel
theorem dX10_errors_70 : decode cX10_errors 70 = .ok (.iadd, 1) := by decide +kernel
theorem dX10_errors_71 : decode cX10_errors 71 = .ok (.iaload, 1) := by decide +kernel
theorem dX10_errors_72 : decode cX10_errors 72 = .ok (.invokevirtual 130, 3) := by decide +kernel
theorem dX10_errors_75 : decode cX10_errors 75 = .ok (.iconst (-1), 1) := by decide +kernel
theorem dX10_errors_76 : decode cX10_errors 76 = .ok (.if_icmp .eq 7, 3) := by decide +kernel
theorem dX10_errors_79 : decode cX10_errors 79 = .ok (.iconst 1, 1) := by decide +kernel
theorem dX10_errors_80 : decode cX10_errors 80 = .ok (.goto 4, 3) := by decide +kernel
theorem dX10_errors_83 : decode cX10_errors 83 = .ok (.iconst 0, 1) := by decide +kernel
theorem dX10_errors_84 : decode cX10_errors 84 = .ok (.iand, 1) := by decide +kernel
theorem dX10_errors_85 : decode cX10_errors 85 = .ok (.istore_n 3, 1) := by decide +kernel
theorem dX10_errors_86 : decode cX10_errors 86 = .ok (.iinc 4 1, 3) := by decide +kernel
theorem dX10_errors_89 : decode cX10_errors 89 = .ok (.goto (-51), 3) := by decide +kernel
theorem dX10_errors_92 : decode cX10_errors 92 = .ok (.iload_n 1, 1) := by decide +kernel
theorem dX10_errors_93 : decode cX10_errors 93 = .ok (.iload_n 3, 1) := by decide +kernel
theorem dX10_errors_94 : decode cX10_errors 94 = .ok (.ifCond .eq 7, 3) := by decide +kernel
theorem dX10_errors_97 : decode cX10_errors 97 = .ok (.iconst 0, 1) := by decide +kernel
theorem dX10_errors_98 : decode cX10_errors 98 = .ok (.goto 4, 3) := by decide +kernel
theorem dX10_errors_101 : decode cX10_errors 101 = .ok (.iconst 1, 1) := by decide +kernel
theorem dX10_errors_102 : decode cX10_errors 102 = .ok (.iadd, 1) := by decide +kernel
theorem dX10_errors_103 : decode cX10_errors 103 = .ok (.istore_n 1, 1) := by decide +kernel
theorem dX10_errors_104 : decode cX10_errors 104 = .ok (.iinc 2 1, 3) := by decide +kernel
theorem dX10_errors_107 : decode cX10_errors 107 = .ok (.goto (-98), 3) := by decide +kernel
theorem dX10_errors_110 : decode cX10_errors 110 = .ok (.iload_n 1, 1) := by decide +kernel
theorem dX10_errors_111 : decode cX10_errors 111 = .ok (.ireturn, 1) := by decide +kernel
