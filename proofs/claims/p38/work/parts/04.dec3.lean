theorem dL_drawn_368 : decode cL_drawn 368 = .ok (.idiv, 1) := by decide +kernel
theorem dL_drawn_369 : decode cL_drawn 369 = .ok (.iconst 4, 1) := by decide +kernel
theorem dL_drawn_370 : decode cL_drawn 370 = .ok (.imul, 1) := by decide +kernel
theorem dL_drawn_371 : decode cL_drawn 371 = .ok (.ishr, 1) := by decide +kernel
theorem dL_drawn_372 : decode cL_drawn 372 = .ok (.invokestatic 69, 3) := by decide +kernel
theorem dL_drawn_375 : decode cL_drawn 375 = .ok (.aastore, 1) := by decide +kernel
theorem dL_drawn_376 : decode cL_drawn 376 = .ok (.iinc 5 1, 3) := by decide +kernel
theorem dL_drawn_379 : decode cL_drawn 379 = .ok (.goto (-43), 3) := by decide +kernel
theorem dL_drawn_382 : decode cL_drawn 382 = .ok (.aload_n 2, 1) := by decide +kernel
theorem dL_drawn_383 : decode cL_drawn 383 = .ok (.areturn, 1) := by decide +kernel
theorem dL_sight_0 : decode cL_sight 0 = .ok (.iconst 3, 1) := by decide +kernel
theorem dL_sight_1 : decode cL_sight 1 = .ok (.newarray .int, 2) := by decide +kernel
theorem dL_sight_3 : decode cL_sight 3 = .ok (.dup, 1) := by decide +kernel
theorem dL_sight_4 : decode cL_sight 4 = .ok (.iconst 0, 1) := by decide +kernel
theorem dL_sight_5 : decode cL_sight 5 = .ok (.iload_n 1, 1) := by decide +kernel
theorem dL_sight_6 : decode cL_sight 6 = .ok (.aload_n 0, 1) := by decide +kernel
theorem dL_sight_7 : decode cL_sight 7 = .ok (.getfield 50, 3) := by decide +kernel
theorem dL_sight_10 : decode cL_sight 10 = .ok (.invokestatic 27, 3) := by decide +kernel
theorem dL_sight_13 : decode cL_sight 13 = .ok (.iastore, 1) := by decide +kernel
theorem dL_sight_14 : decode cL_sight 14 = .ok (.dup, 1) := by decide +kernel
theorem dL_sight_15 : decode cL_sight 15 = .ok (.iconst 1, 1) := by decide +kernel
theorem dL_sight_16 : decode cL_sight 16 = .ok (.iload_n 1, 1) := by decide +kernel
theorem dL_sight_17 : decode cL_sight 17 = .ok (.iconst 3, 1) := by decide +kernel
theorem dL_sight_18 : decode cL_sight 18 = .ok (.ishr, 1) := by decide +kernel
theorem dL_sight_19 : decode cL_sight 19 = .ok (.sipush 1200, 3) := by decide +kernel
theorem dL_sight_22 : decode cL_sight 22 = .ok (.invokestatic 27, 3) := by decide +kernel
theorem dL_sight_25 : decode cL_sight 25 = .ok (.iastore, 1) := by decide +kernel
theorem dL_sight_26 : decode cL_sight 26 = .ok (.dup, 1) := by decide +kernel
theorem dL_sight_27 : decode cL_sight 27 = .ok (.iconst 2, 1) := by decide +kernel
theorem dL_sight_28 : decode cL_sight 28 = .ok (.sipush 300, 3) := by decide +kernel
theorem dL_sight_31 : decode cL_sight 31 = .ok (.iload_n 1, 1) := by decide +kernel
theorem dL_sight_32 : decode cL_sight 32 = .ok (.iconst 5, 1) := by decide +kernel
theorem dL_sight_33 : decode cL_sight 33 = .ok (.ishr, 1) := by decide +kernel
theorem dL_sight_34 : decode cL_sight 34 = .ok (.sipush 4801, 3) := by decide +kernel
theorem dL_sight_37 : decode cL_sight 37 = .ok (.invokestatic 27, 3) := by decide +kernel
theorem dL_sight_40 : decode cL_sight 40 = .ok (.iadd, 1) := by decide +kernel
theorem dL_sight_41 : decode cL_sight 41 = .ok (.iastore, 1) := by decide +kernel
theorem dL_sight_42 : decode cL_sight 42 = .ok (.areturn, 1) := by decide +kernel
theorem dL_word_0 : decode cL_word 0 = .ok (.iconst 0, 1) := by decide +kernel
theorem dL_word_1 : decode cL_word 1 = .ok (.istore_n 3, 1) := by decide +kernel
theorem dL_word_2 : decode cL_word 2 = .ok (.iload_n 3, 1) := by decide +kernel
theorem dL_word_3 : decode cL_word 3 = .ok (.aload_n 2, 1) := by decide +kernel
theorem dL_word_4 : decode cL_word 4 = .ok (.invokevirtual 72, 3) := by decide +kernel
theorem dL_word_7 : decode cL_word 7 = .ok (.if_icmp .ge 19, 3) := by decide +kernel
theorem dL_word_10 : decode cL_word 10 = .ok (.aload_n 0, 1) := by decide +kernel
theorem dL_word_11 : decode cL_word 11 = .ok (.aload_n 1, 1) := by decide +kernel
theorem dL_word_12 : decode cL_word 12 = .ok (.aload_n 2, 1) := by decide +kernel
theorem dL_word_13 : decode cL_word 13 = .ok (.iload_n 3, 1) := by decide +kernel
theorem dL_word_14 : decode cL_word 14 = .ok (.invokevirtual 78, 3) := by decide +kernel
theorem dL_word_17 : decode cL_word 17 = .ok (.invokestatic 14, 3) := by decide +kernel
theorem dL_word_20 : decode cL_word 20 = .ok (.iinc 3 1, 3) := by decide +kernel
theorem dL_word_23 : decode cL_word 23 = .ok (.goto (-21), 3) := by decide +kernel
theorem dL_word_26 : decode cL_word 26 = .ok (.return_, 1) := by decide +kernel
theorem dL_with_0 : decode cL_with 0 = .ok (.aload_n 0, 1) := by decide +kernel
theorem dL_with_1 : decode cL_with 1 = .ok (.aload_n 1, 1) := by decide +kernel
theorem dL_with_2 : decode cL_with 2 = .ok (.aload_n 2, 1) := by decide +kernel
theorem dL_with_3 : decode cL_with 3 = .ok (.invokestatic 82, 3) := by decide +kernel
theorem dL_with_6 : decode cL_with 6 = .ok (.iload_n 3, 1) := by decide +kernel
theorem dL_with_7 : decode cL_with 7 = .ok (.ifCond .ge 10, 3) := by decide +kernel
theorem dL_with_10 : decode cL_with 10 = .ok (.aload_n 0, 1) := by decide +kernel
theorem dL_with_11 : decode cL_with 11 = .ok (.aload_n 1, 1) := by decide +kernel
theorem dL_with_12 : decode cL_with 12 = .ok (.bipush 45, 2) := by decide +kernel
theorem dL_with_14 : decode cL_with 14 = .ok (.invokestatic 14, 3) := by decide +kernel
theorem dL_with_17 : decode cL_with 17 = .ok (.aload_n 0, 1) := by decide +kernel
theorem dL_with_18 : decode cL_with 18 = .ok (.aload_n 1, 1) := by decide +kernel
theorem dL_with_19 : decode cL_with 19 = .ok (.iload_n 3, 1) := by decide +kernel
theorem dL_with_20 : decode cL_with 20 = .ok (.invokestatic 86, 3) := by decide +kernel
theorem dL_with_23 : decode cL_with 23 = .ok (.invokestatic 92, 3) := by decide +kernel
theorem dL_with_26 : decode cL_with 26 = .ok (.return_, 1) := by decide +kernel
theorem dL_name_0 : decode cL_name 0 = .ok (.iconst 0, 1) := by decide +kernel
theorem dL_name_1 : decode cL_name 1 = .ok (.istore 4, 2) := by decide +kernel
theorem dL_name_3 : decode cL_name 3 = .ok (.iload 4, 2) := by decide +kernel
theorem dL_name_5 : decode cL_name 5 = .ok (.aload_n 2, 1) := by decide +kernel
theorem dL_name_6 : decode cL_name 6 = .ok (.getfield 53, 3) := by decide +kernel
theorem dL_name_9 : decode cL_name 9 = .ok (.iload_n 3, 1) := by decide +kernel
theorem dL_name_10 : decode cL_name 10 = .ok (.aaload, 1) := by decide +kernel
theorem dL_name_11 : decode cL_name 11 = .ok (.iconst 2, 1) := by decide +kernel
theorem dL_name_12 : decode cL_name 12 = .ok (.iaload, 1) := by decide +kernel
theorem dL_name_13 : decode cL_name 13 = .ok (.if_icmp .ge 24, 3) := by decide +kernel
theorem dL_name_16 : decode cL_name 16 = .ok (.aload_n 0, 1) := by decide +kernel
theorem dL_name_17 : decode cL_name 17 = .ok (.aload_n 1, 1) := by decide +kernel
theorem dL_name_18 : decode cL_name 18 = .ok (.bipush 117, 2) := by decide +kernel
theorem dL_name_20 : decode cL_name 20 = .ok (.iload_n 3, 1) := by decide +kernel
theorem dL_name_21 : decode cL_name 21 = .ok (.iload 4, 2) := by decide +kernel
theorem dL_name_23 : decode cL_name 23 = .ok (.iadd, 1) := by decide +kernel
theorem dL_name_24 : decode cL_name 24 = .ok (.bipush 6, 2) := by decide +kernel
theorem dL_name_26 : decode cL_name 26 = .ok (.irem, 1) := by decide +kernel
theorem dL_name_27 : decode cL_name 27 = .ok (.iadd, 1) := by decide +kernel
theorem dL_name_28 : decode cL_name 28 = .ok (.invokestatic 14, 3) := by decide +kernel
theorem dL_name_31 : decode cL_name 31 = .ok (.iinc 4 1, 3) := by decide +kernel
theorem dL_name_34 : decode cL_name 34 = .ok (.goto (-31), 3) := by decide +kernel
theorem dL_name_37 : decode cL_name 37 = .ok (.return_, 1) := by decide +kernel
theorem dL_tell_0 : decode cL_tell 0 = .ok (.aload_n 0, 1) := by decide +kernel
theorem dL_tell_1 : decode cL_tell 1 = .ok (.aload_n 1, 1) := by decide +kernel
theorem dL_tell_2 : decode cL_tell 2 = .ok (.ldc 95, 2) := by decide +kernel
theorem dL_tell_4 : decode cL_tell 4 = .ok (.aload_n 2, 1) := by decide +kernel
theorem dL_tell_5 : decode cL_tell 5 = .ok (.getfield 31, 3) := by decide +kernel
theorem dL_tell_8 : decode cL_tell 8 = .ok (.invokestatic 97, 3) := by decide +kernel
theorem dL_tell_11 : decode cL_tell 11 = .ok (.aload_n 0, 1) := by decide +kernel
theorem dL_tell_12 : decode cL_tell 12 = .ok (.aload_n 1, 1) := by decide +kernel
theorem dL_tell_13 : decode cL_tell 13 = .ok (.ldc 101, 2) := by decide +kernel
theorem dL_tell_15 : decode cL_tell 15 = .ok (.aload_n 2, 1) := by decide +kernel
theorem dL_tell_16 : decode cL_tell 16 = .ok (.getfield 35, 3) := by decide +kernel
theorem dL_tell_19 : decode cL_tell 19 = .ok (.invokestatic 97, 3) := by decide +kernel
theorem dL_tell_22 : decode cL_tell 22 = .ok (.aload_n 0, 1) := by decide +kernel
theorem dL_tell_23 : decode cL_tell 23 = .ok (.aload_n 1, 1) := by decide +kernel
theorem dL_tell_24 : decode cL_tell 24 = .ok (.ldc 103, 2) := by decide +kernel
theorem dL_tell_26 : decode cL_tell 26 = .ok (.aload_n 2, 1) := by decide +kernel
theorem dL_tell_27 : decode cL_tell 27 = .ok (.getfield 38, 3) := by decide +kernel
theorem dL_tell_30 : decode cL_tell 30 = .ok (.invokestatic 97, 3) := by decide +kernel
theorem dL_tell_33 : decode cL_tell 33 = .ok (.aload_n 0, 1) := by decide +kernel
theorem dL_tell_34 : decode cL_tell 34 = .ok (.aload_n 1, 1) := by decide +kernel
theorem dL_tell_35 : decode cL_tell 35 = .ok (.ldc 105, 2) := by decide +kernel
theorem dL_tell_37 : decode cL_tell 37 = .ok (.aload_n 2, 1) := by decide +kernel
theorem dL_tell_38 : decode cL_tell 38 = .ok (.getfield 41, 3) := by decide +kernel
theorem dL_tell_41 : decode cL_tell 41 = .ok (.invokestatic 97, 3) := by decide +kernel
theorem dL_tell_44 : decode cL_tell 44 = .ok (.aload_n 0, 1) := by decide +kernel
theorem dL_tell_45 : decode cL_tell 45 = .ok (.aload_n 1, 1) := by decide +kernel
theorem dL_tell_46 : decode cL_tell 46 = .ok (.ldc 107, 2) := by decide +kernel
theorem dL_tell_48 : decode cL_tell 48 = .ok (.aload_n 2, 1) := by decide +kernel
theorem dL_tell_49 : decode cL_tell 49 = .ok (.getfield 44, 3) := by decide +kernel
theorem dL_tell_52 : decode cL_tell 52 = .ok (.invokestatic 97, 3) := by decide +kernel
theorem dL_tell_55 : decode cL_tell 55 = .ok (.aload_n 0, 1) := by decide +kernel
theorem dL_tell_56 : decode cL_tell 56 = .ok (.aload_n 1, 1) := by decide +kernel
theorem dL_tell_57 : decode cL_tell 57 = .ok (.ldc 101, 2) := by decide +kernel
theorem dL_tell_59 : decode cL_tell 59 = .ok (.aload_n 2, 1) := by decide +kernel
theorem dL_tell_60 : decode cL_tell 60 = .ok (.getfield 47, 3) := by decide +kernel
theorem dL_tell_63 : decode cL_tell 63 = .ok (.invokestatic 97, 3) := by decide +kernel
theorem dL_tell_66 : decode cL_tell 66 = .ok (.aload_n 0, 1) := by decide +kernel
theorem dL_tell_67 : decode cL_tell 67 = .ok (.aload_n 1, 1) := by decide +kernel
theorem dL_tell_68 : decode cL_tell 68 = .ok (.bipush 59, 2) := by decide +kernel
theorem dL_tell_70 : decode cL_tell 70 = .ok (.invokestatic 14, 3) := by decide +kernel
theorem dL_tell_73 : decode cL_tell 73 = .ok (.iconst 0, 1) := by decide +kernel
theorem dL_tell_74 : decode cL_tell 74 = .ok (.istore_n 3, 1) := by decide +kernel
theorem dL_tell_75 : decode cL_tell 75 = .ok (.iload_n 3, 1) := by decide +kernel
theorem dL_tell_76 : decode cL_tell 76 = .ok (.aload_n 2, 1) := by decide +kernel
theorem dL_tell_77 : decode cL_tell 77 = .ok (.getfield 50, 3) := by decide +kernel
theorem dL_tell_80 : decode cL_tell 80 = .ok (.if_icmp .ge 60, 3) := by decide +kernel
theorem dL_tell_83 : decode cL_tell 83 = .ok (.aload_n 0, 1) := by decide +kernel
theorem dL_tell_84 : decode cL_tell 84 = .ok (.aload_n 1, 1) := by decide +kernel
theorem dL_tell_85 : decode cL_tell 85 = .ok (.ldc 109, 2) := by decide +kernel
theorem dL_tell_87 : decode cL_tell 87 = .ok (.invokestatic 82, 3) := by decide +kernel
theorem dL_tell_90 : decode cL_tell 90 = .ok (.aload_n 0, 1) := by decide +kernel
theorem dL_tell_91 : decode cL_tell 91 = .ok (.aload_n 1, 1) := by decide +kernel
theorem dL_tell_92 : decode cL_tell 92 = .ok (.aload_n 2, 1) := by decide +kernel
theorem dL_tell_93 : decode cL_tell 93 = .ok (.iload_n 3, 1) := by decide +kernel
theorem dL_tell_94 : decode cL_tell 94 = .ok (.invokestatic 111, 3) := by decide +kernel
theorem dL_tell_97 : decode cL_tell 97 = .ok (.aload_n 0, 1) := by decide +kernel
theorem dL_tell_98 : decode cL_tell 98 = .ok (.aload_n 1, 1) := by decide +kernel
theorem dL_tell_99 : decode cL_tell 99 = .ok (.ldc 101, 2) := by decide +kernel
theorem dL_tell_101 : decode cL_tell 101 = .ok (.aload_n 2, 1) := by decide +kernel
theorem dL_tell_102 : decode cL_tell 102 = .ok (.getfield 53, 3) := by decide +kernel
theorem dL_tell_105 : decode cL_tell 105 = .ok (.iload_n 3, 1) := by decide +kernel
theorem dL_tell_106 : decode cL_tell 106 = .ok (.aaload, 1) := by decide +kernel
theorem dL_tell_107 : decode cL_tell 107 = .ok (.iconst 0, 1) := by decide +kernel
theorem dL_tell_108 : decode cL_tell 108 = .ok (.iaload, 1) := by decide +kernel
theorem dL_tell_109 : decode cL_tell 109 = .ok (.invokestatic 97, 3) := by decide +kernel
theorem dL_tell_112 : decode cL_tell 112 = .ok (.aload_n 0, 1) := by decide +kernel
theorem dL_tell_113 : decode cL_tell 113 = .ok (.aload_n 1, 1) := by decide +kernel
theorem dL_tell_114 : decode cL_tell 114 = .ok (.ldc 101, 2) := by decide +kernel
theorem dL_tell_116 : decode cL_tell 116 = .ok (.aload_n 2, 1) := by decide +kernel
theorem dL_tell_117 : decode cL_tell 117 = .ok (.getfield 53, 3) := by decide +kernel
theorem dL_tell_120 : decode cL_tell 120 = .ok (.iload_n 3, 1) := by decide +kernel
theorem dL_tell_121 : decode cL_tell 121 = .ok (.aaload, 1) := by decide +kernel
theorem dL_tell_122 : decode cL_tell 122 = .ok (.iconst 1, 1) := by decide +kernel
theorem dL_tell_123 : decode cL_tell 123 = .ok (.iaload, 1) := by decide +kernel
theorem dL_tell_124 : decode cL_tell 124 = .ok (.invokestatic 97, 3) := by decide +kernel
theorem dL_tell_127 : decode cL_tell 127 = .ok (.aload_n 0, 1) := by decide +kernel
theorem dL_tell_128 : decode cL_tell 128 = .ok (.aload_n 1, 1) := by decide +kernel
theorem dL_tell_129 : decode cL_tell 129 = .ok (.bipush 59, 2) := by decide +kernel
theorem dL_tell_131 : decode cL_tell 131 = .ok (.invokestatic 14, 3) := by decide +kernel
theorem dL_tell_134 : decode cL_tell 134 = .ok (.iinc 3 1, 3) := by decide +kernel
theorem dL_tell_137 : decode cL_tell 137 = .ok (.goto (-62), 3) := by decide +kernel
theorem dL_tell_140 : decode cL_tell 140 = .ok (.iconst 0, 1) := by decide +kernel
theorem dL_tell_141 : decode cL_tell 141 = .ok (.istore_n 3, 1) := by decide +kernel
theorem dL_tell_142 : decode cL_tell 142 = .ok (.iload_n 3, 1) := by decide +kernel
theorem dL_tell_143 : decode cL_tell 143 = .ok (.aload_n 2, 1) := by decide +kernel
theorem dL_tell_144 : decode cL_tell 144 = .ok (.getfield 57, 3) := by decide +kernel
theorem dL_tell_147 : decode cL_tell 147 = .ok (.if_icmp .ge 61, 3) := by decide +kernel
theorem dL_tell_150 : decode cL_tell 150 = .ok (.aload_n 0, 1) := by decide +kernel
theorem dL_tell_151 : decode cL_tell 151 = .ok (.aload_n 1, 1) := by decide +kernel
theorem dL_tell_152 : decode cL_tell 152 = .ok (.ldc 115, 2) := by decide +kernel
theorem dL_tell_154 : decode cL_tell 154 = .ok (.aload_n 2, 1) := by decide +kernel
theorem dL_tell_155 : decode cL_tell 155 = .ok (.getfield 60, 3) := by decide +kernel
theorem dL_tell_158 : decode cL_tell 158 = .ok (.iload_n 3, 1) := by decide +kernel
theorem dL_tell_159 : decode cL_tell 159 = .ok (.aaload, 1) := by decide +kernel
theorem dL_tell_160 : decode cL_tell 160 = .ok (.iconst 0, 1) := by decide +kernel
theorem dL_tell_161 : decode cL_tell 161 = .ok (.iaload, 1) := by decide +kernel
theorem dL_tell_162 : decode cL_tell 162 = .ok (.invokestatic 97, 3) := by decide +kernel
theorem dL_tell_165 : decode cL_tell 165 = .ok (.aload_n 0, 1) := by decide +kernel
theorem dL_tell_166 : decode cL_tell 166 = .ok (.aload_n 1, 1) := by decide +kernel
theorem dL_tell_167 : decode cL_tell 167 = .ok (.ldc 101, 2) := by decide +kernel
theorem dL_tell_169 : decode cL_tell 169 = .ok (.aload_n 2, 1) := by decide +kernel
theorem dL_tell_170 : decode cL_tell 170 = .ok (.getfield 60, 3) := by decide +kernel
theorem dL_tell_173 : decode cL_tell 173 = .ok (.iload_n 3, 1) := by decide +kernel
theorem dL_tell_174 : decode cL_tell 174 = .ok (.aaload, 1) := by decide +kernel
theorem dL_tell_175 : decode cL_tell 175 = .ok (.iconst 1, 1) := by decide +kernel
theorem dL_tell_176 : decode cL_tell 176 = .ok (.iaload, 1) := by decide +kernel
theorem dL_tell_177 : decode cL_tell 177 = .ok (.invokestatic 97, 3) := by decide +kernel
theorem dL_tell_180 : decode cL_tell 180 = .ok (.aload_n 0, 1) := by decide +kernel
theorem dL_tell_181 : decode cL_tell 181 = .ok (.aload_n 1, 1) := by decide +kernel
theorem dL_tell_182 : decode cL_tell 182 = .ok (.ldc 101, 2) := by decide +kernel
theorem dL_tell_184 : decode cL_tell 184 = .ok (.aload_n 2, 1) := by decide +kernel
theorem dL_tell_185 : decode cL_tell 185 = .ok (.getfield 60, 3) := by decide +kernel
theorem dL_tell_188 : decode cL_tell 188 = .ok (.iload_n 3, 1) := by decide +kernel
theorem dL_tell_189 : decode cL_tell 189 = .ok (.aaload, 1) := by decide +kernel
theorem dL_tell_190 : decode cL_tell 190 = .ok (.iconst 2, 1) := by decide +kernel
theorem dL_tell_191 : decode cL_tell 191 = .ok (.iaload, 1) := by decide +kernel
theorem dL_tell_192 : decode cL_tell 192 = .ok (.invokestatic 97, 3) := by decide +kernel
theorem dL_tell_195 : decode cL_tell 195 = .ok (.aload_n 0, 1) := by decide +kernel
theorem dL_tell_196 : decode cL_tell 196 = .ok (.aload_n 1, 1) := by decide +kernel
theorem dL_tell_197 : decode cL_tell 197 = .ok (.bipush 59, 2) := by decide +kernel
theorem dL_tell_199 : decode cL_tell 199 = .ok (.invokestatic 14, 3) := by decide +kernel
theorem dL_tell_202 : decode cL_tell 202 = .ok (.iinc 3 1, 3) := by decide +kernel
theorem dL_tell_205 : decode cL_tell 205 = .ok (.goto (-63), 3) := by decide +kernel
theorem dL_tell_208 : decode cL_tell 208 = .ok (.iconst 0, 1) := by decide +kernel
theorem dL_tell_209 : decode cL_tell 209 = .ok (.istore_n 3, 1) := by decide +kernel
theorem dL_tell_210 : decode cL_tell 210 = .ok (.iload_n 3, 1) := by decide +kernel
theorem dL_tell_211 : decode cL_tell 211 = .ok (.aload_n 2, 1) := by decide +kernel
theorem dL_tell_212 : decode cL_tell 212 = .ok (.getfield 63, 3) := by decide +kernel
theorem dL_tell_215 : decode cL_tell 215 = .ok (.if_icmp .ge 67, 3) := by decide +kernel
theorem dL_tell_218 : decode cL_tell 218 = .ok (.aload_n 0, 1) := by decide +kernel
theorem dL_tell_219 : decode cL_tell 219 = .ok (.aload_n 1, 1) := by decide +kernel
theorem dL_tell_220 : decode cL_tell 220 = .ok (.ldc 117, 2) := by decide +kernel
theorem dL_tell_222 : decode cL_tell 222 = .ok (.invokestatic 82, 3) := by decide +kernel
theorem dL_tell_225 : decode cL_tell 225 = .ok (.aload_n 0, 1) := by decide +kernel
theorem dL_tell_226 : decode cL_tell 226 = .ok (.aload_n 1, 1) := by decide +kernel
theorem dL_tell_227 : decode cL_tell 227 = .ok (.aload_n 2, 1) := by decide +kernel
theorem dL_tell_228 : decode cL_tell 228 = .ok (.aload_n 2, 1) := by decide +kernel
theorem dL_tell_229 : decode cL_tell 229 = .ok (.getfield 66, 3) := by decide +kernel
theorem dL_tell_232 : decode cL_tell 232 = .ok (.iload_n 3, 1) := by decide +kernel
theorem dL_tell_233 : decode cL_tell 233 = .ok (.aaload, 1) := by decide +kernel
theorem dL_tell_234 : decode cL_tell 234 = .ok (.iconst 0, 1) := by decide +kernel
theorem dL_tell_235 : decode cL_tell 235 = .ok (.iaload, 1) := by decide +kernel
theorem dL_tell_236 : decode cL_tell 236 = .ok (.invokestatic 111, 3) := by decide +kernel
theorem dL_tell_239 : decode cL_tell 239 = .ok (.aload_n 0, 1) := by decide +kernel
theorem dL_tell_240 : decode cL_tell 240 = .ok (.aload_n 1, 1) := by decide +kernel
theorem dL_tell_241 : decode cL_tell 241 = .ok (.ldc 101, 2) := by decide +kernel
theorem dL_tell_243 : decode cL_tell 243 = .ok (.aload_n 2, 1) := by decide +kernel
theorem dL_tell_244 : decode cL_tell 244 = .ok (.getfield 66, 3) := by decide +kernel
theorem dL_tell_247 : decode cL_tell 247 = .ok (.iload_n 3, 1) := by decide +kernel
theorem dL_tell_248 : decode cL_tell 248 = .ok (.aaload, 1) := by decide +kernel
theorem dL_tell_249 : decode cL_tell 249 = .ok (.iconst 1, 1) := by decide +kernel
theorem dL_tell_250 : decode cL_tell 250 = .ok (.iaload, 1) := by decide +kernel
theorem dL_tell_251 : decode cL_tell 251 = .ok (.invokestatic 97, 3) := by decide +kernel
theorem dL_tell_254 : decode cL_tell 254 = .ok (.aload_n 0, 1) := by decide +kernel
theorem dL_tell_255 : decode cL_tell 255 = .ok (.aload_n 1, 1) := by decide +kernel
theorem dL_tell_256 : decode cL_tell 256 = .ok (.ldc 101, 2) := by decide +kernel
theorem dL_tell_258 : decode cL_tell 258 = .ok (.aload_n 2, 1) := by decide +kernel
theorem dL_tell_259 : decode cL_tell 259 = .ok (.getfield 66, 3) := by decide +kernel
theorem dL_tell_262 : decode cL_tell 262 = .ok (.iload_n 3, 1) := by decide +kernel
theorem dL_tell_263 : decode cL_tell 263 = .ok (.aaload, 1) := by decide +kernel
theorem dL_tell_264 : decode cL_tell 264 = .ok (.iconst 2, 1) := by decide +kernel
theorem dL_tell_265 : decode cL_tell 265 = .ok (.iaload, 1) := by decide +kernel
theorem dL_tell_266 : decode cL_tell 266 = .ok (.invokestatic 97, 3) := by decide +kernel
theorem dL_tell_269 : decode cL_tell 269 = .ok (.aload_n 0, 1) := by decide +kernel
theorem dL_tell_270 : decode cL_tell 270 = .ok (.aload_n 1, 1) := by decide +kernel
theorem dL_tell_271 : decode cL_tell 271 = .ok (.bipush 59, 2) := by decide +kernel
theorem dL_tell_273 : decode cL_tell 273 = .ok (.invokestatic 14, 3) := by decide +kernel
theorem dL_tell_276 : decode cL_tell 276 = .ok (.iinc 3 1, 3) := by decide +kernel
theorem dL_tell_279 : decode cL_tell 279 = .ok (.goto (-69), 3) := by decide +kernel
theorem dL_tell_282 : decode cL_tell 282 = .ok (.aload_n 0, 1) := by decide +kernel
theorem dL_tell_283 : decode cL_tell 283 = .ok (.aload_n 0, 1) := by decide +kernel
theorem dL_tell_284 : decode cL_tell 284 = .ok (.aload_n 1, 1) := by decide +kernel
theorem dL_tell_285 : decode cL_tell 285 = .ok (.invokestatic 119, 3) := by decide +kernel
theorem dL_tell_288 : decode cL_tell 288 = .ok (.invokevirtual 123, 3) := by decide +kernel
theorem dL_tell_291 : decode cL_tell 291 = .ok (.ireturn, 1) := by decide +kernel
theorem dL_act_0 : decode cL_act 0 = .ok (.iload_n 2, 1) := by decide +kernel
theorem dL_act_1 : decode cL_act 1 = .ok (.bipush 10, 2) := by decide +kernel
theorem dL_act_3 : decode cL_act 3 = .ok (.invokestatic 27, 3) := by decide +kernel
theorem dL_act_6 : decode cL_act 6 = .ok (.istore_n 3, 1) := by decide +kernel
theorem dL_act_7 : decode cL_act 7 = .ok (.iload_n 2, 1) := by decide +kernel
theorem dL_act_8 : decode cL_act 8 = .ok (.iconst 4, 1) := by decide +kernel
theorem dL_act_9 : decode cL_act 9 = .ok (.ishr, 1) := by decide +kernel
theorem dL_act_10 : decode cL_act 10 = .ok (.istore 4, 2) := by decide +kernel
theorem dL_act_12 : decode cL_act 12 = .ok (.iload_n 3, 1) := by decide +kernel
theorem dL_act_13 : decode cL_act 13 = .ok (.iconst 4, 1) := by decide +kernel
theorem dL_act_14 : decode cL_act 14 = .ok (.if_icmp .ge 99, 3) := by decide +kernel
theorem dL_act_17 : decode cL_act 17 = .ok (.aload_n 1, 1) := by decide +kernel
theorem dL_act_18 : decode cL_act 18 = .ok (.iload 4, 2) := by decide +kernel
theorem dL_act_20 : decode cL_act 20 = .ok (.invokestatic 69, 3) := by decide +kernel
theorem dL_act_23 : decode cL_act 23 = .ok (.astore 5, 2) := by decide +kernel
theorem dL_act_25 : decode cL_act 25 = .ok (.aload_n 1, 1) := by decide +kernel
theorem dL_act_26 : decode cL_act 26 = .ok (.getfield 63, 3) := by decide +kernel
theorem dL_act_29 : decode cL_act 29 = .ok (.bipush 12, 2) := by decide +kernel
theorem dL_act_31 : decode cL_act 31 = .ok (.if_icmp .ne 30, 3) := by decide +kernel
theorem dL_act_34 : decode cL_act 34 = .ok (.aload_n 0, 1) := by decide +kernel
theorem dL_act_35 : decode cL_act 35 = .ok (.aload 5, 2) := by decide +kernel
theorem dL_act_37 : decode cL_act 37 = .ok (.iconst 0, 1) := by decide +kernel
theorem dL_act_38 : decode cL_act 38 = .ok (.iaload, 1) := by decide +kernel
theorem dL_act_39 : decode cL_act 39 = .ok (.aload 5, 2) := by decide +kernel
theorem dL_act_41 : decode cL_act 41 = .ok (.iconst 1, 1) := by decide +kernel
theorem dL_act_42 : decode cL_act 42 = .ok (.iaload, 1) := by decide +kernel
theorem dL_act_43 : decode cL_act 43 = .ok (.aload 5, 2) := by decide +kernel
theorem dL_act_45 : decode cL_act 45 = .ok (.iconst 2, 1) := by decide +kernel
theorem dL_act_46 : decode cL_act 46 = .ok (.iaload, 1) := by decide +kernel
theorem dL_act_47 : decode cL_act 47 = .ok (.invokevirtual 135, 3) := by decide +kernel
theorem dL_act_50 : decode cL_act 50 = .ok (.bipush (-2), 2) := by decide +kernel
theorem dL_act_52 : decode cL_act 52 = .ok (.if_icmp .ne 7, 3) := by decide +kernel
theorem dL_act_55 : decode cL_act 55 = .ok (.iconst 0, 1) := by decide +kernel
theorem dL_act_56 : decode cL_act 56 = .ok (.goto 4, 3) := by decide +kernel
theorem dL_act_59 : decode cL_act 59 = .ok (.iconst (-1), 1) := by decide +kernel
theorem dL_act_60 : decode cL_act 60 = .ok (.ireturn, 1) := by decide +kernel
theorem dL_act_61 : decode cL_act 61 = .ok (.aload_n 1, 1) := by decide +kernel
theorem dL_act_62 : decode cL_act 62 = .ok (.getfield 66, 3) := by decide +kernel
theorem dL_act_65 : decode cL_act 65 = .ok (.aload_n 1, 1) := by decide +kernel
theorem dL_act_66 : decode cL_act 66 = .ok (.getfield 63, 3) := by decide +kernel
theorem dL_act_69 : decode cL_act 69 = .ok (.aload 5, 2) := by decide +kernel
theorem dL_act_71 : decode cL_act 71 = .ok (.aastore, 1) := by decide +kernel
theorem dL_act_72 : decode cL_act 72 = .ok (.aload_n 1, 1) := by decide +kernel
theorem dL_act_73 : decode cL_act 73 = .ok (.dup, 1) := by decide +kernel
theorem dL_act_74 : decode cL_act 74 = .ok (.getfield 63, 3) := by decide +kernel
theorem dL_act_77 : decode cL_act 77 = .ok (.iconst 1, 1) := by decide +kernel
theorem dL_act_78 : decode cL_act 78 = .ok (.iadd, 1) := by decide +kernel
theorem dL_act_79 : decode cL_act 79 = .ok (.putfield 63, 3) := by decide +kernel
theorem dL_act_82 : decode cL_act 82 = .ok (.aload_n 0, 1) := by decide +kernel
theorem dL_act_83 : decode cL_act 83 = .ok (.aload 5, 2) := by decide +kernel
theorem dL_act_85 : decode cL_act 85 = .ok (.iconst 0, 1) := by decide +kernel
theorem dL_act_86 : decode cL_act 86 = .ok (.iaload, 1) := by decide +kernel
theorem dL_act_87 : decode cL_act 87 = .ok (.aload 5, 2) := by decide +kernel
theorem dL_act_89 : decode cL_act 89 = .ok (.iconst 1, 1) := by decide +kernel
theorem dL_act_90 : decode cL_act 90 = .ok (.iaload, 1) := by decide +kernel
theorem dL_act_91 : decode cL_act 91 = .ok (.aload 5, 2) := by decide +kernel
theorem dL_act_93 : decode cL_act 93 = .ok (.iconst 2, 1) := by decide +kernel
theorem dL_act_94 : decode cL_act 94 = .ok (.iaload, 1) := by decide +kernel
theorem dL_act_95 : decode cL_act 95 = .ok (.invokevirtual 135, 3) := by decide +kernel
theorem dL_act_98 : decode cL_act 98 = .ok (.aload_n 1, 1) := by decide +kernel
theorem dL_act_99 : decode cL_act 99 = .ok (.getfield 63, 3) := by decide +kernel
theorem dL_act_102 : decode cL_act 102 = .ok (.iconst 1, 1) := by decide +kernel
theorem dL_act_103 : decode cL_act 103 = .ok (.isub, 1) := by decide +kernel
theorem dL_act_104 : decode cL_act 104 = .ok (.if_icmp .ne 7, 3) := by decide +kernel
theorem dL_act_107 : decode cL_act 107 = .ok (.iconst 1, 1) := by decide +kernel
theorem dL_act_108 : decode cL_act 108 = .ok (.goto 4, 3) := by decide +kernel
theorem dL_act_111 : decode cL_act 111 = .ok (.iconst (-1), 1) := by decide +kernel
theorem dL_act_112 : decode cL_act 112 = .ok (.ireturn, 1) := by decide +kernel
theorem dL_act_113 : decode cL_act 113 = .ok (.iload_n 3, 1) := by decide +kernel
theorem dL_act_114 : decode cL_act 114 = .ok (.iconst 4, 1) := by decide +kernel
theorem dL_act_115 : decode cL_act 115 = .ok (.if_icmp .ne 87, 3) := by decide +kernel
theorem dL_act_118 : decode cL_act 118 = .ok (.aload_n 1, 1) := by decide +kernel
theorem dL_act_119 : decode cL_act 119 = .ok (.getfield 63, 3) := by decide +kernel
theorem dL_act_122 : decode cL_act 122 = .ok (.ifCond .ne 5, 3) := by decide +kernel
theorem dL_act_125 : decode cL_act 125 = .ok (.iconst 0, 1) := by decide +kernel
theorem dL_act_126 : decode cL_act 126 = .ok (.ireturn, 1) := by decide +kernel
theorem dL_act_127 : decode cL_act 127 = .ok (.iload 4, 2) := by decide +kernel
theorem dL_act_129 : decode cL_act 129 = .ok (.aload_n 1, 1) := by decide +kernel
theorem dL_act_130 : decode cL_act 130 = .ok (.getfield 63, 3) := by decide +kernel
theorem dL_act_133 : decode cL_act 133 = .ok (.invokestatic 27, 3) := by decide +kernel
theorem dL_act_136 : decode cL_act 136 = .ok (.istore 5, 2) := by decide +kernel
theorem dL_act_138 : decode cL_act 138 = .ok (.aload_n 1, 1) := by decide +kernel
theorem dL_act_139 : decode cL_act 139 = .ok (.dup, 1) := by decide +kernel
theorem dL_act_140 : decode cL_act 140 = .ok (.getfield 63, 3) := by decide +kernel
theorem dL_act_143 : decode cL_act 143 = .ok (.iconst 1, 1) := by decide +kernel
theorem dL_act_144 : decode cL_act 144 = .ok (.isub, 1) := by decide +kernel
theorem dL_act_145 : decode cL_act 145 = .ok (.putfield 63, 3) := by decide +kernel
theorem dL_act_148 : decode cL_act 148 = .ok (.iload 5, 2) := by decide +kernel
theorem dL_act_150 : decode cL_act 150 = .ok (.istore 6, 2) := by decide +kernel
theorem dL_act_152 : decode cL_act 152 = .ok (.iload 6, 2) := by decide +kernel
theorem dL_act_154 : decode cL_act 154 = .ok (.aload_n 1, 1) := by decide +kernel
theorem dL_act_155 : decode cL_act 155 = .ok (.getfield 63, 3) := by decide +kernel
theorem dL_act_158 : decode cL_act 158 = .ok (.if_icmp .ge 25, 3) := by decide +kernel
theorem dL_act_161 : decode cL_act 161 = .ok (.aload_n 1, 1) := by decide +kernel
theorem dL_act_162 : decode cL_act 162 = .ok (.getfield 66, 3) := by decide +kernel
theorem dL_act_165 : decode cL_act 165 = .ok (.iload 6, 2) := by decide +kernel
theorem dL_act_167 : decode cL_act 167 = .ok (.aload_n 1, 1) := by decide +kernel
theorem dL_act_168 : decode cL_act 168 = .ok (.getfield 66, 3) := by decide +kernel
theorem dL_act_171 : decode cL_act 171 = .ok (.iload 6, 2) := by decide +kernel
theorem dL_act_173 : decode cL_act 173 = .ok (.iconst 1, 1) := by decide +kernel
theorem dL_act_174 : decode cL_act 174 = .ok (.iadd, 1) := by decide +kernel
theorem dL_act_175 : decode cL_act 175 = .ok (.aaload, 1) := by decide +kernel
theorem dL_act_176 : decode cL_act 176 = .ok (.aastore, 1) := by decide +kernel
theorem dL_act_177 : decode cL_act 177 = .ok (.iinc 6 1, 3) := by decide +kernel
theorem dL_act_180 : decode cL_act 180 = .ok (.goto (-28), 3) := by decide +kernel
theorem dL_act_183 : decode cL_act 183 = .ok (.aload_n 0, 1) := by decide +kernel
theorem dL_act_184 : decode cL_act 184 = .ok (.iload 5, 2) := by decide +kernel
theorem dL_act_186 : decode cL_act 186 = .ok (.invokevirtual 139, 3) := by decide +kernel
theorem dL_act_189 : decode cL_act 189 = .ok (.aload_n 1, 1) := by decide +kernel
theorem dL_act_190 : decode cL_act 190 = .ok (.getfield 63, 3) := by decide +kernel
theorem dL_act_193 : decode cL_act 193 = .ok (.if_icmp .ne 7, 3) := by decide +kernel
theorem dL_act_196 : decode cL_act 196 = .ok (.iconst 1, 1) := by decide +kernel
theorem dL_act_197 : decode cL_act 197 = .ok (.goto 4, 3) := by decide +kernel
theorem dL_act_200 : decode cL_act 200 = .ok (.iconst (-1), 1) := by decide +kernel
theorem dL_act_201 : decode cL_act 201 = .ok (.ireturn, 1) := by decide +kernel
theorem dL_act_202 : decode cL_act 202 = .ok (.iload_n 3, 1) := by decide +kernel
theorem dL_act_203 : decode cL_act 203 = .ok (.bipush 7, 2) := by decide +kernel
theorem dL_act_205 : decode cL_act 205 = .ok (.if_icmp .ge 159, 3) := by decide +kernel
theorem dL_act_208 : decode cL_act 208 = .ok (.iconst 3, 1) := by decide +kernel
theorem dL_act_209 : decode cL_act 209 = .ok (.newarray .int, 2) := by decide +kernel
theorem dL_act_211 : decode cL_act 211 = .ok (.dup, 1) := by decide +kernel
theorem dL_act_212 : decode cL_act 212 = .ok (.iconst 0, 1) := by decide +kernel
theorem dL_act_213 : decode cL_act 213 = .ok (.iload 4, 2) := by decide +kernel
theorem dL_act_215 : decode cL_act 215 = .ok (.sipush 1800, 3) := by decide +kernel
theorem dL_act_218 : decode cL_act 218 = .ok (.invokestatic 27, 3) := by decide +kernel
theorem dL_act_221 : decode cL_act 221 = .ok (.iastore, 1) := by decide +kernel
theorem dL_act_222 : decode cL_act 222 = .ok (.dup, 1) := by decide +kernel
theorem dL_act_223 : decode cL_act 223 = .ok (.iconst 1, 1) := by decide +kernel
theorem dL_act_224 : decode cL_act 224 = .ok (.iload 4, 2) := by decide +kernel
theorem dL_act_226 : decode cL_act 226 = .ok (.iconst 2, 1) := by decide +kernel
theorem dL_act_227 : decode cL_act 227 = .ok (.ishr, 1) := by decide +kernel
theorem dL_act_228 : decode cL_act 228 = .ok (.sipush 21600, 3) := by decide +kernel
theorem dL_act_231 : decode cL_act 231 = .ok (.invokestatic 27, 3) := by decide +kernel
theorem dL_act_234 : decode cL_act 234 = .ok (.iastore, 1) := by decide +kernel
theorem dL_act_235 : decode cL_act 235 = .ok (.dup, 1) := by decide +kernel
theorem dL_act_236 : decode cL_act 236 = .ok (.iconst 2, 1) := by decide +kernel
theorem dL_act_237 : decode cL_act 237 = .ok (.iload 4, 2) := by decide +kernel
theorem dL_act_239 : decode cL_act 239 = .ok (.iconst 4, 1) := by decide +kernel
theorem dL_act_240 : decode cL_act 240 = .ok (.ishr, 1) := by decide +kernel
theorem dL_act_241 : decode cL_act 241 = .ok (.sipush 401, 3) := by decide +kernel
theorem dL_act_244 : decode cL_act 244 = .ok (.invokestatic 27, 3) := by decide +kernel
theorem dL_act_247 : decode cL_act 247 = .ok (.iastore, 1) := by decide +kernel
theorem dL_act_248 : decode cL_act 248 = .ok (.astore 5, 2) := by decide +kernel
theorem dL_act_250 : decode cL_act 250 = .ok (.aload_n 1, 1) := by decide +kernel
theorem dL_act_251 : decode cL_act 251 = .ok (.getfield 57, 3) := by decide +kernel
theorem dL_act_254 : decode cL_act 254 = .ok (.bipush 8, 2) := by decide +kernel
theorem dL_act_256 : decode cL_act 256 = .ok (.if_icmp .ne 8, 3) := by decide +kernel
theorem dL_act_259 : decode cL_act 259 = .ok (.bipush (-2), 2) := by decide +kernel
theorem dL_act_261 : decode cL_act 261 = .ok (.goto 39, 3) := by decide +kernel
theorem dL_act_264 : decode cL_act 264 = .ok (.aload_n 1, 1) := by decide +kernel
theorem dL_act_265 : decode cL_act 265 = .ok (.getfield 57, 3) := by decide +kernel
theorem dL_act_268 : decode cL_act 268 = .ok (.ifCond .le 28, 3) := by decide +kernel
theorem dL_act_271 : decode cL_act 271 = .ok (.aload 5, 2) := by decide +kernel
theorem dL_act_273 : decode cL_act 273 = .ok (.iconst 0, 1) := by decide +kernel
theorem dL_act_274 : decode cL_act 274 = .ok (.iaload, 1) := by decide +kernel
theorem dL_act_275 : decode cL_act 275 = .ok (.aload_n 1, 1) := by decide +kernel
theorem dL_act_276 : decode cL_act 276 = .ok (.getfield 60, 3) := by decide +kernel
theorem dL_act_279 : decode cL_act 279 = .ok (.aload_n 1, 1) := by decide +kernel
theorem dL_act_280 : decode cL_act 280 = .ok (.getfield 57, 3) := by decide +kernel
theorem dL_act_283 : decode cL_act 283 = .ok (.iconst 1, 1) := by decide +kernel
theorem dL_act_284 : decode cL_act 284 = .ok (.isub, 1) := by decide +kernel
theorem dL_act_285 : decode cL_act 285 = .ok (.aaload, 1) := by decide +kernel
theorem dL_act_286 : decode cL_act 286 = .ok (.iconst 0, 1) := by decide +kernel
theorem dL_act_287 : decode cL_act 287 = .ok (.iaload, 1) := by decide +kernel
theorem dL_act_288 : decode cL_act 288 = .ok (.if_icmp .gt 8, 3) := by decide +kernel
theorem dL_act_291 : decode cL_act 291 = .ok (.bipush (-3), 2) := by decide +kernel
theorem dL_act_293 : decode cL_act 293 = .ok (.goto 7, 3) := by decide +kernel
theorem dL_act_296 : decode cL_act 296 = .ok (.aload_n 1, 1) := by decide +kernel
theorem dL_act_297 : decode cL_act 297 = .ok (.getfield 57, 3) := by decide +kernel
theorem dL_act_300 : decode cL_act 300 = .ok (.istore 6, 2) := by decide +kernel
theorem dL_act_302 : decode cL_act 302 = .ok (.iload 6, 2) := by decide +kernel
theorem dL_act_304 : decode cL_act 304 = .ok (.ifCond .lt 24, 3) := by decide +kernel
theorem dL_act_307 : decode cL_act 307 = .ok (.aload_n 1, 1) := by decide +kernel
theorem dL_act_308 : decode cL_act 308 = .ok (.getfield 60, 3) := by decide +kernel
theorem dL_act_311 : decode cL_act 311 = .ok (.aload_n 1, 1) := by decide +kernel
theorem dL_act_312 : decode cL_act 312 = .ok (.getfield 57, 3) := by decide +kernel
theorem dL_act_315 : decode cL_act 315 = .ok (.aload 5, 2) := by decide +kernel
theorem dL_act_317 : decode cL_act 317 = .ok (.aastore, 1) := by decide +kernel
theorem dL_act_318 : decode cL_act 318 = .ok (.aload_n 1, 1) := by decide +kernel
theorem dL_act_319 : decode cL_act 319 = .ok (.dup, 1) := by decide +kernel
theorem dL_act_320 : decode cL_act 320 = .ok (.getfield 57, 3) := by decide +kernel
theorem dL_act_323 : decode cL_act 323 = .ok (.iconst 1, 1) := by decide +kernel
theorem dL_act_324 : decode cL_act 324 = .ok (.iadd, 1) := by decide +kernel
theorem dL_act_325 : decode cL_act 325 = .ok (.putfield 57, 3) := by decide +kernel
theorem dL_act_328 : decode cL_act 328 = .ok (.aload_n 0, 1) := by decide +kernel
theorem dL_act_329 : decode cL_act 329 = .ok (.aload 5, 2) := by decide +kernel
theorem dL_act_331 : decode cL_act 331 = .ok (.iconst 0, 1) := by decide +kernel
theorem dL_act_332 : decode cL_act 332 = .ok (.iaload, 1) := by decide +kernel
theorem dL_act_333 : decode cL_act 333 = .ok (.aload 5, 2) := by decide +kernel
theorem dL_act_335 : decode cL_act 335 = .ok (.iconst 1, 1) := by decide +kernel
theorem dL_act_336 : decode cL_act 336 = .ok (.iaload, 1) := by decide +kernel
theorem dL_act_337 : decode cL_act 337 = .ok (.aload 5, 2) := by decide +kernel
theorem dL_act_339 : decode cL_act 339 = .ok (.iconst 2, 1) := by decide +kernel
theorem dL_act_340 : decode cL_act 340 = .ok (.iaload, 1) := by decide +kernel
theorem dL_act_341 : decode cL_act 341 = .ok (.invokevirtual 142, 3) := by decide +kernel
theorem dL_act_344 : decode cL_act 344 = .ok (.iload 6, 2) := by decide +kernel
theorem dL_act_346 : decode cL_act 346 = .ok (.if_icmp .eq 7, 3) := by decide +kernel
theorem dL_act_349 : decode cL_act 349 = .ok (.iconst (-1), 1) := by decide +kernel
theorem dL_act_350 : decode cL_act 350 = .ok (.goto 13, 3) := by decide +kernel
theorem dL_act_353 : decode cL_act 353 = .ok (.iload 6, 2) := by decide +kernel
theorem dL_act_355 : decode cL_act 355 = .ok (.ifCond .ge 7, 3) := by decide +kernel
theorem dL_act_358 : decode cL_act 358 = .ok (.iconst 0, 1) := by decide +kernel
theorem dL_act_359 : decode cL_act 359 = .ok (.goto 4, 3) := by decide +kernel
theorem dL_act_362 : decode cL_act 362 = .ok (.iconst 1, 1) := by decide +kernel
theorem dL_act_363 : decode cL_act 363 = .ok (.ireturn, 1) := by decide +kernel
theorem dL_act_364 : decode cL_act 364 = .ok (.iload_n 3, 1) := by decide +kernel
theorem dL_act_365 : decode cL_act 365 = .ok (.bipush 9, 2) := by decide +kernel
theorem dL_act_367 : decode cL_act 367 = .ok (.if_icmp .ge 57, 3) := by decide +kernel
theorem dL_act_370 : decode cL_act 370 = .ok (.aload_n 1, 1) := by decide +kernel
theorem dL_act_371 : decode cL_act 371 = .ok (.getfield 47, 3) := by decide +kernel
theorem dL_act_374 : decode cL_act 374 = .ok (.istore 5, 2) := by decide +kernel
theorem dL_act_376 : decode cL_act 376 = .ok (.aload_n 1, 1) := by decide +kernel
theorem dL_act_377 : decode cL_act 377 = .ok (.iload 4, 2) := by decide +kernel
theorem dL_act_379 : decode cL_act 379 = .ok (.sipush 21600, 3) := by decide +kernel
theorem dL_act_382 : decode cL_act 382 = .ok (.invokestatic 27, 3) := by decide +kernel
theorem dL_act_385 : decode cL_act 385 = .ok (.putfield 44, 3) := by decide +kernel
theorem dL_act_388 : decode cL_act 388 = .ok (.aload_n 1, 1) := by decide +kernel
theorem dL_act_389 : decode cL_act 389 = .ok (.iload 4, 2) := by decide +kernel
theorem dL_act_391 : decode cL_act 391 = .ok (.iconst 3, 1) := by decide +kernel
theorem dL_act_392 : decode cL_act 392 = .ok (.ishr, 1) := by decide +kernel
theorem dL_act_393 : decode cL_act 393 = .ok (.bipush 101, 2) := by decide +kernel
theorem dL_act_395 : decode cL_act 395 = .ok (.invokestatic 27, 3) := by decide +kernel
theorem dL_act_398 : decode cL_act 398 = .ok (.putfield 47, 3) := by decide +kernel
theorem dL_act_401 : decode cL_act 401 = .ok (.aload_n 0, 1) := by decide +kernel
theorem dL_act_402 : decode cL_act 402 = .ok (.aload_n 1, 1) := by decide +kernel
theorem dL_act_403 : decode cL_act 403 = .ok (.getfield 44, 3) := by decide +kernel
theorem dL_act_406 : decode cL_act 406 = .ok (.aload_n 1, 1) := by decide +kernel
theorem dL_act_407 : decode cL_act 407 = .ok (.getfield 47, 3) := by decide +kernel
theorem dL_act_410 : decode cL_act 410 = .ok (.invokevirtual 145, 3) := by decide +kernel
theorem dL_act_413 : decode cL_act 413 = .ok (.iload 5, 2) := by decide +kernel
theorem dL_act_415 : decode cL_act 415 = .ok (.if_icmp .ne 7, 3) := by decide +kernel
theorem dL_act_418 : decode cL_act 418 = .ok (.iconst 1, 1) := by decide +kernel
theorem dL_act_419 : decode cL_act 419 = .ok (.goto 4, 3) := by decide +kernel
theorem dL_act_422 : decode cL_act 422 = .ok (.iconst (-1), 1) := by decide +kernel
theorem dL_act_423 : decode cL_act 423 = .ok (.ireturn, 1) := by decide +kernel
theorem dL_act_424 : decode cL_act 424 = .ok (.aload_n 1, 1) := by decide +kernel
theorem dL_act_425 : decode cL_act 425 = .ok (.iload 4, 2) := by decide +kernel
theorem dL_act_427 : decode cL_act 427 = .ok (.bipush 51, 2) := by decide +kernel
theorem dL_act_429 : decode cL_act 429 = .ok (.invokestatic 27, 3) := by decide +kernel
theorem dL_act_432 : decode cL_act 432 = .ok (.putfield 38, 3) := by decide +kernel
theorem dL_act_435 : decode cL_act 435 = .ok (.aload_n 1, 1) := by decide +kernel
theorem dL_act_436 : decode cL_act 436 = .ok (.iload 4, 2) := by decide +kernel
theorem dL_act_438 : decode cL_act 438 = .ok (.iconst 3, 1) := by decide +kernel
theorem dL_act_439 : decode cL_act 439 = .ok (.ishr, 1) := by decide +kernel
theorem dL_act_440 : decode cL_act 440 = .ok (.bipush 121, 2) := by decide +kernel
theorem dL_act_442 : decode cL_act 442 = .ok (.invokestatic 27, 3) := by decide +kernel
theorem dL_act_445 : decode cL_act 445 = .ok (.bipush 60, 2) := by decide +kernel
theorem dL_act_447 : decode cL_act 447 = .ok (.isub, 1) := by decide +kernel
theorem dL_act_448 : decode cL_act 448 = .ok (.putfield 41, 3) := by decide +kernel
theorem dL_act_451 : decode cL_act 451 = .ok (.aload_n 0, 1) := by decide +kernel
theorem dL_act_452 : decode cL_act 452 = .ok (.aload_n 1, 1) := by decide +kernel
theorem dL_act_453 : decode cL_act 453 = .ok (.getfield 38, 3) := by decide +kernel
theorem dL_act_456 : decode cL_act 456 = .ok (.aload_n 1, 1) := by decide +kernel
theorem dL_act_457 : decode cL_act 457 = .ok (.getfield 41, 3) := by decide +kernel
theorem dL_act_460 : decode cL_act 460 = .ok (.invokevirtual 148, 3) := by decide +kernel
theorem dL_act_463 : decode cL_act 463 = .ok (.aload_n 1, 1) := by decide +kernel
theorem dL_act_464 : decode cL_act 464 = .ok (.invokevirtual 151, 3) := by decide +kernel
theorem dL_act_467 : decode cL_act 467 = .ok (.if_icmp .ne 7, 3) := by decide +kernel
theorem dL_act_470 : decode cL_act 470 = .ok (.iconst 1, 1) := by decide +kernel
theorem dL_act_471 : decode cL_act 471 = .ok (.goto 4, 3) := by decide +kernel
theorem dL_act_474 : decode cL_act 474 = .ok (.iconst (-1), 1) := by decide +kernel
theorem dL_act_475 : decode cL_act 475 = .ok (.ireturn, 1) := by decide +kernel
theorem dL_all_0 : decode cL_all 0 = .ok (.lconst 0, 1) := by decide +kernel
theorem dL_all_1 : decode cL_all 1 = .ok (.lstore_n 1, 1) := by decide +kernel
theorem dL_all_2 : decode cL_all 2 = .ok (.iconst 0, 1) := by decide +kernel
theorem dL_all_3 : decode cL_all 3 = .ok (.istore_n 3, 1) := by decide +kernel
theorem dL_all_4 : decode cL_all 4 = .ok (.iload_n 3, 1) := by decide +kernel
theorem dL_all_5 : decode cL_all 5 = .ok (.bipush 9, 2) := by decide +kernel
theorem dL_all_7 : decode cL_all 7 = .ok (.if_icmp .ge 22, 3) := by decide +kernel
theorem dL_all_10 : decode cL_all 10 = .ok (.ldc2_w 154, 3) := by decide +kernel
theorem dL_all_13 : decode cL_all 13 = .ok (.lload_n 1, 1) := by decide +kernel
theorem dL_all_14 : decode cL_all 14 = .ok (.lmul, 1) := by decide +kernel
theorem dL_all_15 : decode cL_all 15 = .ok (.aload_n 0, 1) := by decide +kernel
theorem dL_all_16 : decode cL_all 16 = .ok (.iload_n 3, 1) := by decide +kernel
theorem dL_all_17 : decode cL_all 17 = .ok (.invokevirtual 126, 3) := by decide +kernel
theorem dL_all_20 : decode cL_all 20 = .ok (.i2l, 1) := by decide +kernel
theorem dL_all_21 : decode cL_all 21 = .ok (.ladd, 1) := by decide +kernel
theorem dL_all_22 : decode cL_all 22 = .ok (.lstore_n 1, 1) := by decide +kernel
theorem dL_all_23 : decode cL_all 23 = .ok (.iinc 3 1, 3) := by decide +kernel
theorem dL_all_26 : decode cL_all 26 = .ok (.goto (-22), 3) := by decide +kernel
theorem dL_all_29 : decode cL_all 29 = .ok (.iconst 0, 1) := by decide +kernel
theorem dL_all_30 : decode cL_all 30 = .ok (.istore_n 3, 1) := by decide +kernel
theorem dL_all_31 : decode cL_all 31 = .ok (.iload_n 3, 1) := by decide +kernel
theorem dL_all_32 : decode cL_all 32 = .ok (.aload_n 0, 1) := by decide +kernel
theorem dL_all_33 : decode cL_all 33 = .ok (.iconst 0, 1) := by decide +kernel
theorem dL_all_34 : decode cL_all 34 = .ok (.invokevirtual 126, 3) := by decide +kernel
theorem dL_all_37 : decode cL_all 37 = .ok (.if_icmp .ge 43, 3) := by decide +kernel
theorem dL_all_40 : decode cL_all 40 = .ok (.ldc2_w 154, 3) := by decide +kernel
theorem dL_all_43 : decode cL_all 43 = .ok (.lload_n 1, 1) := by decide +kernel
theorem dL_all_44 : decode cL_all 44 = .ok (.lmul, 1) := by decide +kernel
theorem dL_all_45 : decode cL_all 45 = .ok (.aload_n 0, 1) := by decide +kernel
theorem dL_all_46 : decode cL_all 46 = .ok (.iload_n 3, 1) := by decide +kernel
theorem dL_all_47 : decode cL_all 47 = .ok (.iconst 0, 1) := by decide +kernel
theorem dL_all_48 : decode cL_all 48 = .ok (.invokevirtual 129, 3) := by decide +kernel
theorem dL_all_51 : decode cL_all 51 = .ok (.i2l, 1) := by decide +kernel
theorem dL_all_52 : decode cL_all 52 = .ok (.ladd, 1) := by decide +kernel
theorem dL_all_53 : decode cL_all 53 = .ok (.ldc2_w 156, 3) := by decide +kernel
theorem dL_all_56 : decode cL_all 56 = .ok (.aload_n 0, 1) := by decide +kernel
theorem dL_all_57 : decode cL_all 57 = .ok (.iload_n 3, 1) := by decide +kernel
theorem dL_all_58 : decode cL_all 58 = .ok (.iconst 1, 1) := by decide +kernel
theorem dL_all_59 : decode cL_all 59 = .ok (.invokevirtual 129, 3) := by decide +kernel
theorem dL_all_62 : decode cL_all 62 = .ok (.i2l, 1) := by decide +kernel
theorem dL_all_63 : decode cL_all 63 = .ok (.lmul, 1) := by decide +kernel
theorem dL_all_64 : decode cL_all 64 = .ok (.ladd, 1) := by decide +kernel
theorem dL_all_65 : decode cL_all 65 = .ok (.aload_n 0, 1) := by decide +kernel
theorem dL_all_66 : decode cL_all 66 = .ok (.iload_n 3, 1) := by decide +kernel
theorem dL_all_67 : decode cL_all 67 = .ok (.iconst 3, 1) := by decide +kernel
theorem dL_all_68 : decode cL_all 68 = .ok (.invokevirtual 129, 3) := by decide +kernel
theorem dL_all_71 : decode cL_all 71 = .ok (.i2l, 1) := by decide +kernel
theorem dL_all_72 : decode cL_all 72 = .ok (.ladd, 1) := by decide +kernel
theorem dL_all_73 : decode cL_all 73 = .ok (.lstore_n 1, 1) := by decide +kernel
theorem dL_all_74 : decode cL_all 74 = .ok (.iinc 3 1, 3) := by decide +kernel
theorem dL_all_77 : decode cL_all 77 = .ok (.goto (-46), 3) := by decide +kernel
theorem dL_all_80 : decode cL_all 80 = .ok (.iconst 0, 1) := by decide +kernel
theorem dL_all_81 : decode cL_all 81 = .ok (.istore_n 3, 1) := by decide +kernel
theorem dL_all_82 : decode cL_all 82 = .ok (.iload_n 3, 1) := by decide +kernel
theorem dL_all_83 : decode cL_all 83 = .ok (.aload_n 0, 1) := by decide +kernel
theorem dL_all_84 : decode cL_all 84 = .ok (.iconst 1, 1) := by decide +kernel
theorem dL_all_85 : decode cL_all 85 = .ok (.invokevirtual 126, 3) := by decide +kernel
theorem dL_all_88 : decode cL_all 88 = .ok (.if_icmp .ge 39, 3) := by decide +kernel
theorem dL_all_91 : decode cL_all 91 = .ok (.iconst 0, 1) := by decide +kernel
theorem dL_all_92 : decode cL_all 92 = .ok (.istore 4, 2) := by decide +kernel
theorem dL_all_94 : decode cL_all 94 = .ok (.iload 4, 2) := by decide +kernel
theorem dL_all_96 : decode cL_all 96 = .ok (.iconst 3, 1) := by decide +kernel
theorem dL_all_97 : decode cL_all 97 = .ok (.if_icmp .ge 24, 3) := by decide +kernel
theorem dL_all_100 : decode cL_all 100 = .ok (.ldc2_w 154, 3) := by decide +kernel
theorem dL_all_103 : decode cL_all 103 = .ok (.lload_n 1, 1) := by decide +kernel
theorem dL_all_104 : decode cL_all 104 = .ok (.lmul, 1) := by decide +kernel
theorem dL_all_105 : decode cL_all 105 = .ok (.aload_n 0, 1) := by decide +kernel
theorem dL_all_106 : decode cL_all 106 = .ok (.iload_n 3, 1) := by decide +kernel
theorem dL_all_107 : decode cL_all 107 = .ok (.iload 4, 2) := by decide +kernel
theorem dL_all_109 : decode cL_all 109 = .ok (.invokevirtual 131, 3) := by decide +kernel
theorem dL_all_112 : decode cL_all 112 = .ok (.i2l, 1) := by decide +kernel
theorem dL_all_113 : decode cL_all 113 = .ok (.ladd, 1) := by decide +kernel
theorem dL_all_114 : decode cL_all 114 = .ok (.lstore_n 1, 1) := by decide +kernel
theorem dL_all_115 : decode cL_all 115 = .ok (.iinc 4 1, 3) := by decide +kernel
theorem dL_all_118 : decode cL_all 118 = .ok (.goto (-24), 3) := by decide +kernel
theorem dL_all_121 : decode cL_all 121 = .ok (.iinc 3 1, 3) := by decide +kernel
theorem dL_all_124 : decode cL_all 124 = .ok (.goto (-42), 3) := by decide +kernel
theorem dL_all_127 : decode cL_all 127 = .ok (.iconst 0, 1) := by decide +kernel
theorem dL_all_128 : decode cL_all 128 = .ok (.istore_n 3, 1) := by decide +kernel
theorem dL_all_129 : decode cL_all 129 = .ok (.iload_n 3, 1) := by decide +kernel
theorem dL_all_130 : decode cL_all 130 = .ok (.aload_n 0, 1) := by decide +kernel
theorem dL_all_131 : decode cL_all 131 = .ok (.iconst 2, 1) := by decide +kernel
theorem dL_all_132 : decode cL_all 132 = .ok (.invokevirtual 126, 3) := by decide +kernel
theorem dL_all_135 : decode cL_all 135 = .ok (.if_icmp .ge 40, 3) := by decide +kernel
theorem dL_all_138 : decode cL_all 138 = .ok (.iconst 0, 1) := by decide +kernel
theorem dL_all_139 : decode cL_all 139 = .ok (.istore 4, 2) := by decide +kernel
theorem dL_all_141 : decode cL_all 141 = .ok (.iload 4, 2) := by decide +kernel
theorem dL_all_143 : decode cL_all 143 = .ok (.bipush 9, 2) := by decide +kernel
theorem dL_all_145 : decode cL_all 145 = .ok (.if_icmp .ge 24, 3) := by decide +kernel
theorem dL_all_148 : decode cL_all 148 = .ok (.ldc2_w 154, 3) := by decide +kernel
theorem dL_all_151 : decode cL_all 151 = .ok (.lload_n 1, 1) := by decide +kernel
theorem dL_all_152 : decode cL_all 152 = .ok (.lmul, 1) := by decide +kernel
theorem dL_all_153 : decode cL_all 153 = .ok (.aload_n 0, 1) := by decide +kernel
theorem dL_all_154 : decode cL_all 154 = .ok (.iload_n 3, 1) := by decide +kernel
theorem dL_all_155 : decode cL_all 155 = .ok (.iload 4, 2) := by decide +kernel
theorem dL_all_157 : decode cL_all 157 = .ok (.invokevirtual 133, 3) := by decide +kernel
theorem dL_all_160 : decode cL_all 160 = .ok (.i2l, 1) := by decide +kernel
theorem dL_all_161 : decode cL_all 161 = .ok (.ladd, 1) := by decide +kernel
theorem dL_all_162 : decode cL_all 162 = .ok (.lstore_n 1, 1) := by decide +kernel
theorem dL_all_163 : decode cL_all 163 = .ok (.iinc 4 1, 3) := by decide +kernel
theorem dL_all_166 : decode cL_all 166 = .ok (.goto (-25), 3) := by decide +kernel
theorem dL_all_169 : decode cL_all 169 = .ok (.iinc 3 1, 3) := by decide +kernel
theorem dL_all_172 : decode cL_all 172 = .ok (.goto (-43), 3) := by decide +kernel
theorem dL_all_175 : decode cL_all 175 = .ok (.lload_n 1, 1) := by decide +kernel
theorem dL_all_176 : decode cL_all 176 = .ok (.lreturn, 1) := by decide +kernel
theorem dL_far_0 : decode cL_far 0 = .ok (.aload_n 0, 1) := by decide +kernel
theorem dL_far_1 : decode cL_far 1 = .ok (.iload_n 1, 1) := by decide +kernel
theorem dL_far_2 : decode cL_far 2 = .ok (.bipush 6, 2) := by decide +kernel
theorem dL_far_4 : decode cL_far 4 = .ok (.invokevirtual 133, 3) := by decide +kernel
theorem dL_far_7 : decode cL_far 7 = .ok (.istore 7, 2) := by decide +kernel
theorem dL_far_9 : decode cL_far 9 = .ok (.lload_n 3, 1) := by decide +kernel
theorem dL_far_10 : decode cL_far 10 = .ok (.aload_n 0, 1) := by decide +kernel
theorem dL_far_11 : decode cL_far 11 = .ok (.iload 7, 2) := by decide +kernel
theorem dL_far_13 : decode cL_far 13 = .ok (.invokevirtual 158, 3) := by decide +kernel
theorem dL_far_16 : decode cL_far 16 = .ok (.i2l, 1) := by decide +kernel
theorem dL_far_17 : decode cL_far 17 = .ok (.lmul, 1) := by decide +kernel
theorem dL_far_18 : decode cL_far 18 = .ok (.lload 5, 2) := by decide +kernel
theorem dL_far_20 : decode cL_far 20 = .ok (.aload_n 0, 1) := by decide +kernel
theorem dL_far_21 : decode cL_far 21 = .ok (.iload 7, 2) := by decide +kernel
theorem dL_far_23 : decode cL_far 23 = .ok (.sipush 5400, 3) := by decide +kernel
theorem dL_far_26 : decode cL_far 26 = .ok (.iadd, 1) := by decide +kernel
theorem dL_far_27 : decode cL_far 27 = .ok (.invokevirtual 158, 3) := by decide +kernel
theorem dL_far_30 : decode cL_far 30 = .ok (.i2l, 1) := by decide +kernel
theorem dL_far_31 : decode cL_far 31 = .ok (.lmul, 1) := by decide +kernel
theorem dL_far_32 : decode cL_far 32 = .ok (.ladd, 1) := by decide +kernel
theorem dL_far_33 : decode cL_far 33 = .ok (.ldc2_w 161, 3) := by decide +kernel
theorem dL_far_36 : decode cL_far 36 = .ok (.invokestatic 163, 3) := by decide +kernel
theorem dL_far_39 : decode cL_far 39 = .ok (.aload_n 0, 1) := by decide +kernel
theorem dL_far_40 : decode cL_far 40 = .ok (.iload_n 1, 1) := by decide +kernel
theorem dL_far_41 : decode cL_far 41 = .ok (.iload_n 2, 1) := by decide +kernel
theorem dL_far_42 : decode cL_far 42 = .ok (.invokevirtual 167, 3) := by decide +kernel
theorem dL_far_45 : decode cL_far 45 = .ok (.i2l, 1) := by decide +kernel
theorem dL_far_46 : decode cL_far 46 = .ok (.lsub, 1) := by decide +kernel
theorem dL_far_47 : decode cL_far 47 = .ok (.invokestatic 170, 3) := by decide +kernel
theorem dL_far_50 : decode cL_far 50 = .ok (.lreturn, 1) := by decide +kernel
theorem dL_areSound_0 : decode cL_areSound 0 = .ok (.aload_n 0, 1) := by decide +kernel
theorem dL_areSound_1 : decode cL_areSound 1 = .ok (.iconst 2, 1) := by decide +kernel
theorem dL_areSound_2 : decode cL_areSound 2 = .ok (.invokevirtual 126, 3) := by decide +kernel
theorem dL_areSound_5 : decode cL_areSound 5 = .ok (.istore_n 2, 1) := by decide +kernel
theorem dL_areSound_6 : decode cL_areSound 6 = .ok (.iload_n 1, 1) := by decide +kernel
theorem dL_areSound_7 : decode cL_areSound 7 = .ok (.sipush 2000, 3) := by decide +kernel
theorem dL_areSound_10 : decode cL_areSound 10 = .ok (.invokestatic 27, 3) := by decide +kernel
theorem dL_areSound_13 : decode cL_areSound 13 = .ok (.istore_n 3, 1) := by decide +kernel
theorem dL_areSound_14 : decode cL_areSound 14 = .ok (.iconst 0, 1) := by decide +kernel
theorem dL_areSound_15 : decode cL_areSound 15 = .ok (.istore 4, 2) := by decide +kernel
theorem dL_areSound_17 : decode cL_areSound 17 = .ok (.iload 4, 2) := by decide +kernel
theorem dL_areSound_19 : decode cL_areSound 19 = .ok (.iload_n 2, 1) := by decide +kernel
theorem dL_areSound_20 : decode cL_areSound 20 = .ok (.if_icmp .ge 129, 3) := by decide +kernel
theorem dL_areSound_23 : decode cL_areSound 23 = .ok (.aload_n 0, 1) := by decide +kernel
theorem dL_areSound_24 : decode cL_areSound 24 = .ok (.iload 4, 2) := by decide +kernel
theorem dL_areSound_26 : decode cL_areSound 26 = .ok (.aload_n 0, 1) := by decide +kernel
theorem dL_areSound_27 : decode cL_areSound 27 = .ok (.iload 4, 2) := by decide +kernel
theorem dL_areSound_29 : decode cL_areSound 29 = .ok (.iconst 1, 1) := by decide +kernel
theorem dL_areSound_30 : decode cL_areSound 30 = .ok (.invokevirtual 133, 3) := by decide +kernel
theorem dL_areSound_33 : decode cL_areSound 33 = .ok (.invokevirtual 167, 3) := by decide +kernel
theorem dL_areSound_36 : decode cL_areSound 36 = .ok (.aload_n 0, 1) := by decide +kernel
theorem dL_areSound_37 : decode cL_areSound 37 = .ok (.iload 4, 2) := by decide +kernel
theorem dL_areSound_39 : decode cL_areSound 39 = .ok (.bipush 8, 2) := by decide +kernel
theorem dL_areSound_41 : decode cL_areSound 41 = .ok (.invokevirtual 133, 3) := by decide +kernel
theorem dL_areSound_44 : decode cL_areSound 44 = .ok (.if_icmp .ne 80, 3) := by decide +kernel
theorem dL_areSound_47 : decode cL_areSound 47 = .ok (.aload_n 0, 1) := by decide +kernel
theorem dL_areSound_48 : decode cL_areSound 48 = .ok (.iload 4, 2) := by decide +kernel
theorem dL_areSound_50 : decode cL_areSound 50 = .ok (.bipush 7, 2) := by decide +kernel
theorem dL_areSound_52 : decode cL_areSound 52 = .ok (.invokevirtual 133, 3) := by decide +kernel
theorem dL_areSound_55 : decode cL_areSound 55 = .ok (.aload_n 0, 1) := by decide +kernel
theorem dL_areSound_56 : decode cL_areSound 56 = .ok (.iload 4, 2) := by decide +kernel
theorem dL_areSound_58 : decode cL_areSound 58 = .ok (.iconst 4, 1) := by decide +kernel
theorem dL_areSound_59 : decode cL_areSound 59 = .ok (.invokevirtual 133, 3) := by decide +kernel
theorem dL_areSound_62 : decode cL_areSound 62 = .ok (.aload_n 0, 1) := by decide +kernel
theorem dL_areSound_63 : decode cL_areSound 63 = .ok (.iload 4, 2) := by decide +kernel
theorem dL_areSound_65 : decode cL_areSound 65 = .ok (.iconst 5, 1) := by decide +kernel
theorem dL_areSound_66 : decode cL_areSound 66 = .ok (.invokevirtual 133, 3) := by decide +kernel
theorem dL_areSound_69 : decode cL_areSound 69 = .ok (.isub, 1) := by decide +kernel
theorem dL_areSound_70 : decode cL_areSound 70 = .ok (.if_icmp .ne 54, 3) := by decide +kernel
theorem dL_areSound_73 : decode cL_areSound 73 = .ok (.aload_n 0, 1) := by decide +kernel
theorem dL_areSound_74 : decode cL_areSound 74 = .ok (.iload 4, 2) := by decide +kernel
theorem dL_areSound_76 : decode cL_areSound 76 = .ok (.bipush 6, 2) := by decide +kernel
theorem dL_areSound_78 : decode cL_areSound 78 = .ok (.invokevirtual 133, 3) := by decide +kernel
theorem dL_areSound_81 : decode cL_areSound 81 = .ok (.ifCond .lt 43, 3) := by decide +kernel
theorem dL_areSound_84 : decode cL_areSound 84 = .ok (.aload_n 0, 1) := by decide +kernel
theorem dL_areSound_85 : decode cL_areSound 85 = .ok (.iload 4, 2) := by decide +kernel
theorem dL_areSound_87 : decode cL_areSound 87 = .ok (.bipush 6, 2) := by decide +kernel
theorem dL_areSound_89 : decode cL_areSound 89 = .ok (.invokevirtual 133, 3) := by decide +kernel
theorem dL_areSound_92 : decode cL_areSound 92 = .ok (.sipush 21599, 3) := by decide +kernel
theorem dL_areSound_95 : decode cL_areSound 95 = .ok (.if_icmp .gt 29, 3) := by decide +kernel
theorem dL_areSound_98 : decode cL_areSound 98 = .ok (.aload_n 0, 1) := by decide +kernel
theorem dL_areSound_99 : decode cL_areSound 99 = .ok (.iload 4, 2) := by decide +kernel
theorem dL_areSound_101 : decode cL_areSound 101 = .ok (.iconst 5, 1) := by decide +kernel
theorem dL_areSound_102 : decode cL_areSound 102 = .ok (.invokevirtual 133, 3) := by decide +kernel
theorem dL_areSound_105 : decode cL_areSound 105 = .ok (.sipush (-5400), 3) := by decide +kernel
theorem dL_areSound_108 : decode cL_areSound 108 = .ok (.if_icmp .lt 16, 3) := by decide +kernel
theorem dL_areSound_111 : decode cL_areSound 111 = .ok (.aload_n 0, 1) := by decide +kernel
theorem dL_areSound_112 : decode cL_areSound 112 = .ok (.iload 4, 2) := by decide +kernel
theorem dL_areSound_114 : decode cL_areSound 114 = .ok (.iconst 5, 1) := by decide +kernel
theorem dL_areSound_115 : decode cL_areSound 115 = .ok (.invokevirtual 133, 3) := by decide +kernel
theorem dL_areSound_118 : decode cL_areSound 118 = .ok (.sipush 5400, 3) := by decide +kernel
theorem dL_areSound_121 : decode cL_areSound 121 = .ok (.if_icmp .le 5, 3) := by decide +kernel
theorem dL_areSound_124 : decode cL_areSound 124 = .ok (.iconst 0, 1) := by decide +kernel
theorem dL_areSound_125 : decode cL_areSound 125 = .ok (.ireturn, 1) := by decide +kernel
theorem dL_areSound_126 : decode cL_areSound 126 = .ok (.aload_n 0, 1) := by decide +kernel
theorem dL_areSound_127 : decode cL_areSound 127 = .ok (.iload 4, 2) := by decide +kernel
theorem dL_areSound_129 : decode cL_areSound 129 = .ok (.iload 4, 2) := by decide +kernel
theorem dL_areSound_131 : decode cL_areSound 131 = .ok (.iload_n 3, 1) := by decide +kernel
theorem dL_areSound_132 : decode cL_areSound 132 = .ok (.iconst 0, 1) := by decide +kernel
theorem dL_areSound_133 : decode cL_areSound 133 = .ok (.invokevirtual 173, 3) := by decide +kernel
theorem dL_areSound_136 : decode cL_areSound 136 = .ok (.ldc 177, 2) := by decide +kernel
theorem dL_areSound_138 : decode cL_areSound 138 = .ok (.if_icmp .eq 5, 3) := by decide +kernel
theorem dL_areSound_141 : decode cL_areSound 141 = .ok (.iconst 0, 1) := by decide +kernel
theorem dL_areSound_142 : decode cL_areSound 142 = .ok (.ireturn, 1) := by decide +kernel
theorem dL_areSound_143 : decode cL_areSound 143 = .ok (.iinc 4 1, 3) := by decide +kernel
theorem dL_areSound_146 : decode cL_areSound 146 = .ok (.goto (-129), 3) := by decide +kernel
theorem dL_areSound_149 : decode cL_areSound 149 = .ok (.iconst 0, 1) := by decide +kernel
theorem dL_areSound_150 : decode cL_areSound 150 = .ok (.istore 4, 2) := by decide +kernel
theorem dL_areSound_152 : decode cL_areSound 152 = .ok (.iload 4, 2) := by decide +kernel
theorem dL_areSound_154 : decode cL_areSound 154 = .ok (.iload_n 2, 1) := by decide +kernel
theorem dL_areSound_155 : decode cL_areSound 155 = .ok (.if_icmp .ge 150, 3) := by decide +kernel
theorem dL_areSound_158 : decode cL_areSound 158 = .ok (.iconst 0, 1) := by decide +kernel
theorem dL_areSound_159 : decode cL_areSound 159 = .ok (.istore 5, 2) := by decide +kernel
theorem dL_areSound_161 : decode cL_areSound 161 = .ok (.iload 5, 2) := by decide +kernel
theorem dL_areSound_163 : decode cL_areSound 163 = .ok (.iload 4, 2) := by decide +kernel
theorem dL_areSound_165 : decode cL_areSound 165 = .ok (.if_icmp .ge 134, 3) := by decide +kernel
theorem dL_areSound_168 : decode cL_areSound 168 = .ok (.aload_n 0, 1) := by decide +kernel
theorem dL_areSound_169 : decode cL_areSound 169 = .ok (.iload 4, 2) := by decide +kernel
theorem dL_areSound_171 : decode cL_areSound 171 = .ok (.iload 5, 2) := by decide +kernel
theorem dL_areSound_173 : decode cL_areSound 173 = .ok (.iload_n 3, 1) := by decide +kernel
theorem dL_areSound_174 : decode cL_areSound 174 = .ok (.iconst 0, 1) := by decide +kernel
theorem dL_areSound_175 : decode cL_areSound 175 = .ok (.invokevirtual 173, 3) := by decide +kernel
theorem dL_areSound_178 : decode cL_areSound 178 = .ok (.istore 6, 2) := by decide +kernel
theorem dL_areSound_180 : decode cL_areSound 180 = .ok (.aload_n 0, 1) := by decide +kernel
theorem dL_areSound_181 : decode cL_areSound 181 = .ok (.iload 4, 2) := by decide +kernel
theorem dL_areSound_183 : decode cL_areSound 183 = .ok (.iload 5, 2) := by decide +kernel
theorem dL_areSound_185 : decode cL_areSound 185 = .ok (.iload_n 3, 1) := by decide +kernel
theorem dL_areSound_186 : decode cL_areSound 186 = .ok (.iconst 1, 1) := by decide +kernel
theorem dL_areSound_187 : decode cL_areSound 187 = .ok (.invokevirtual 173, 3) := by decide +kernel
theorem dL_areSound_190 : decode cL_areSound 190 = .ok (.istore 7, 2) := by decide +kernel
theorem dL_areSound_192 : decode cL_areSound 192 = .ok (.iload 6, 2) := by decide +kernel
theorem dL_areSound_194 : decode cL_areSound 194 = .ok (.ldc 177, 2) := by decide +kernel
theorem dL_areSound_196 : decode cL_areSound 196 = .ok (.if_icmp .ne 7, 3) := by decide +kernel
theorem dL_areSound_199 : decode cL_areSound 199 = .ok (.iconst 1, 1) := by decide +kernel
theorem dL_areSound_200 : decode cL_areSound 200 = .ok (.goto 4, 3) := by decide +kernel
theorem dL_areSound_203 : decode cL_areSound 203 = .ok (.iconst 0, 1) := by decide +kernel
theorem dL_areSound_204 : decode cL_areSound 204 = .ok (.iload 7, 2) := by decide +kernel
theorem dL_areSound_206 : decode cL_areSound 206 = .ok (.ldc 177, 2) := by decide +kernel
theorem dL_areSound_208 : decode cL_areSound 208 = .ok (.if_icmp .ne 7, 3) := by decide +kernel
theorem dL_areSound_211 : decode cL_areSound 211 = .ok (.iconst 1, 1) := by decide +kernel
theorem dL_areSound_212 : decode cL_areSound 212 = .ok (.goto 4, 3) := by decide +kernel
theorem dL_areSound_215 : decode cL_areSound 215 = .ok (.iconst 0, 1) := by decide +kernel
theorem dL_areSound_216 : decode cL_areSound 216 = .ok (.if_icmp .eq 5, 3) := by decide +kernel
theorem dL_areSound_219 : decode cL_areSound 219 = .ok (.iconst 0, 1) := by decide +kernel
theorem dL_areSound_220 : decode cL_areSound 220 = .ok (.ireturn, 1) := by decide +kernel
theorem dL_areSound_221 : decode cL_areSound 221 = .ok (.iload 6, 2) := by decide +kernel
theorem dL_areSound_223 : decode cL_areSound 223 = .ok (.ldc 177, 2) := by decide +kernel
theorem dL_areSound_225 : decode cL_areSound 225 = .ok (.if_icmp .eq 68, 3) := by decide +kernel
theorem dL_areSound_228 : decode cL_areSound 228 = .ok (.iload 6, 2) := by decide +kernel
theorem dL_areSound_230 : decode cL_areSound 230 = .ok (.invokestatic 86, 3) := by decide +kernel
theorem dL_areSound_233 : decode cL_areSound 233 = .ok (.ldc 178, 2) := by decide +kernel
theorem dL_areSound_235 : decode cL_areSound 235 = .ok (.if_icmp .gt 58, 3) := by decide +kernel
theorem dL_areSound_238 : decode cL_areSound 238 = .ok (.iload 7, 2) := by decide +kernel
theorem dL_areSound_240 : decode cL_areSound 240 = .ok (.invokestatic 86, 3) := by decide +kernel
theorem dL_areSound_243 : decode cL_areSound 243 = .ok (.ldc 178, 2) := by decide +kernel
theorem dL_areSound_245 : decode cL_areSound 245 = .ok (.if_icmp .le 6, 3) := by decide +kernel
theorem dL_areSound_248 : decode cL_areSound 248 = .ok (.goto 45, 3) := by decide +kernel
theorem dL_areSound_251 : decode cL_areSound 251 = .ok (.aload_n 0, 1) := by decide +kernel
theorem dL_areSound_252 : decode cL_areSound 252 = .ok (.iload 4, 2) := by decide +kernel
theorem dL_areSound_254 : decode cL_areSound 254 = .ok (.iload_n 3, 1) := by decide +kernel
theorem dL_areSound_255 : decode cL_areSound 255 = .ok (.iload 6, 2) := by decide +kernel
theorem dL_areSound_257 : decode cL_areSound 257 = .ok (.i2l, 1) := by decide +kernel
theorem dL_areSound_258 : decode cL_areSound 258 = .ok (.iload 7, 2) := by decide +kernel
theorem dL_areSound_260 : decode cL_areSound 260 = .ok (.i2l, 1) := by decide +kernel
theorem dL_areSound_261 : decode cL_areSound 261 = .ok (.invokestatic 179, 3) := by decide +kernel
theorem dL_areSound_264 : decode cL_areSound 264 = .ok (.ldc2_w 183, 3) := by decide +kernel
theorem dL_areSound_267 : decode cL_areSound 267 = .ok (.lcmp, 1) := by decide +kernel
theorem dL_areSound_268 : decode cL_areSound 268 = .ok (.ifCond .gt 23, 3) := by decide +kernel
theorem dL_areSound_271 : decode cL_areSound 271 = .ok (.aload_n 0, 1) := by decide +kernel
theorem dL_areSound_272 : decode cL_areSound 272 = .ok (.iload 5, 2) := by decide +kernel
theorem dL_areSound_274 : decode cL_areSound 274 = .ok (.iload_n 3, 1) := by decide +kernel
theorem dL_areSound_275 : decode cL_areSound 275 = .ok (.iload 6, 2) := by decide +kernel
theorem dL_areSound_277 : decode cL_areSound 277 = .ok (.i2l, 1) := by decide +kernel
theorem dL_areSound_278 : decode cL_areSound 278 = .ok (.iload 7, 2) := by decide +kernel
theorem dL_areSound_280 : decode cL_areSound 280 = .ok (.i2l, 1) := by decide +kernel
theorem dL_areSound_281 : decode cL_areSound 281 = .ok (.invokestatic 179, 3) := by decide +kernel
theorem dL_areSound_284 : decode cL_areSound 284 = .ok (.ldc2_w 183, 3) := by decide +kernel
theorem dL_areSound_287 : decode cL_areSound 287 = .ok (.lcmp, 1) := by decide +kernel
theorem dL_areSound_288 : decode cL_areSound 288 = .ok (.ifCond .le 5, 3) := by decide +kernel
theorem dL_areSound_291 : decode cL_areSound 291 = .ok (.iconst 0, 1) := by decide +kernel
theorem dL_areSound_292 : decode cL_areSound 292 = .ok (.ireturn, 1) := by decide +kernel
theorem dL_areSound_293 : decode cL_areSound 293 = .ok (.iinc 5 1, 3) := by decide +kernel
theorem dL_areSound_296 : decode cL_areSound 296 = .ok (.goto (-135), 3) := by decide +kernel
theorem dL_areSound_299 : decode cL_areSound 299 = .ok (.iinc 4 1, 3) := by decide +kernel
theorem dL_areSound_302 : decode cL_areSound 302 = .ok (.goto (-150), 3) := by decide +kernel
theorem dL_areSound_305 : decode cL_areSound 305 = .ok (.iconst 1, 1) := by decide +kernel
theorem dL_areSound_306 : decode cL_areSound 306 = .ok (.ireturn, 1) := by decide +kernel
theorem dL_areHats_0 : decode cL_areHats 0 = .ok (.aload_n 0, 1) := by decide +kernel
theorem dL_areHats_1 : decode cL_areHats 1 = .ok (.iconst 2, 1) := by decide +kernel
theorem dL_areHats_2 : decode cL_areHats 2 = .ok (.invokevirtual 126, 3) := by decide +kernel
theorem dL_areHats_5 : decode cL_areHats 5 = .ok (.istore_n 2, 1) := by decide +kernel
theorem dL_areHats_6 : decode cL_areHats 6 = .ok (.iload_n 1, 1) := by decide +kernel
theorem dL_areHats_7 : decode cL_areHats 7 = .ok (.iconst 2, 1) := by decide +kernel
theorem dL_areHats_8 : decode cL_areHats 8 = .ok (.ishr, 1) := by decide +kernel
theorem dL_areHats_9 : decode cL_areHats 9 = .ok (.sipush 1500, 3) := by decide +kernel
theorem dL_areHats_12 : decode cL_areHats 12 = .ok (.invokestatic 27, 3) := by decide +kernel
theorem dL_areHats_15 : decode cL_areHats 15 = .ok (.istore_n 3, 1) := by decide +kernel
theorem dL_areHats_16 : decode cL_areHats 16 = .ok (.iload_n 2, 1) := by decide +kernel
theorem dL_areHats_17 : decode cL_areHats 17 = .ok (.iconst 3, 1) := by decide +kernel
theorem dL_areHats_18 : decode cL_areHats 18 = .ok (.if_icmp .ge 18, 3) := by decide +kernel
theorem dL_areHats_21 : decode cL_areHats 21 = .ok (.aload_n 0, 1) := by decide +kernel
theorem dL_areHats_22 : decode cL_areHats 22 = .ok (.iload_n 3, 1) := by decide +kernel
theorem dL_areHats_23 : decode cL_areHats 23 = .ok (.invokevirtual 185, 3) := by decide +kernel
theorem dL_areHats_26 : decode cL_areHats 26 = .ok (.iconst (-1), 1) := by decide +kernel
theorem dL_areHats_27 : decode cL_areHats 27 = .ok (.if_icmp .ne 7, 3) := by decide +kernel
theorem dL_areHats_30 : decode cL_areHats 30 = .ok (.iconst 1, 1) := by decide +kernel
theorem dL_areHats_31 : decode cL_areHats 31 = .ok (.goto 4, 3) := by decide +kernel
theorem dL_areHats_34 : decode cL_areHats 34 = .ok (.iconst 0, 1) := by decide +kernel
theorem dL_areHats_35 : decode cL_areHats 35 = .ok (.ireturn, 1) := by decide +kernel
theorem dL_areHats_36 : decode cL_areHats 36 = .ok (.aload_n 0, 1) := by decide +kernel
theorem dL_areHats_37 : decode cL_areHats 37 = .ok (.iload_n 3, 1) := by decide +kernel
theorem dL_areHats_38 : decode cL_areHats 38 = .ok (.invokevirtual 185, 3) := by decide +kernel
theorem dL_areHats_41 : decode cL_areHats 41 = .ok (.istore 4, 2) := by decide +kernel
theorem dL_areHats_43 : decode cL_areHats 43 = .ok (.iload 4, 2) := by decide +kernel
theorem dL_areHats_45 : decode cL_areHats 45 = .ok (.ifCond .ge 5, 3) := by decide +kernel
theorem dL_areHats_48 : decode cL_areHats 48 = .ok (.iconst 1, 1) := by decide +kernel
theorem dL_areHats_49 : decode cL_areHats 49 = .ok (.ireturn, 1) := by decide +kernel
theorem dL_areHats_50 : decode cL_areHats 50 = .ok (.iload 4, 2) := by decide +kernel
theorem dL_areHats_52 : decode cL_areHats 52 = .ok (.sipush 10000, 3) := by decide +kernel
theorem dL_areHats_55 : decode cL_areHats 55 = .ok (.idiv, 1) := by decide +kernel
theorem dL_areHats_56 : decode cL_areHats 56 = .ok (.istore 5, 2) := by decide +kernel
theorem dL_areHats_58 : decode cL_areHats 58 = .ok (.iload 4, 2) := by decide +kernel
theorem dL_areHats_60 : decode cL_areHats 60 = .ok (.bipush 100, 2) := by decide +kernel
theorem dL_areHats_62 : decode cL_areHats 62 = .ok (.idiv, 1) := by decide +kernel
theorem dL_areHats_63 : decode cL_areHats 63 = .ok (.bipush 100, 2) := by decide +kernel
theorem dL_areHats_65 : decode cL_areHats 65 = .ok (.irem, 1) := by decide +kernel
theorem dL_areHats_66 : decode cL_areHats 66 = .ok (.istore 6, 2) := by decide +kernel
theorem dL_areHats_68 : decode cL_areHats 68 = .ok (.iload 4, 2) := by decide +kernel
theorem dL_areHats_70 : decode cL_areHats 70 = .ok (.bipush 100, 2) := by decide +kernel
theorem dL_areHats_72 : decode cL_areHats 72 = .ok (.irem, 1) := by decide +kernel
theorem dL_areHats_73 : decode cL_areHats 73 = .ok (.istore 7, 2) := by decide +kernel
theorem dL_areHats_75 : decode cL_areHats 75 = .ok (.aload_n 0, 1) := by decide +kernel
theorem dL_areHats_76 : decode cL_areHats 76 = .ok (.iload 5, 2) := by decide +kernel
theorem dL_areHats_78 : decode cL_areHats 78 = .ok (.iload 6, 2) := by decide +kernel
theorem dL_areHats_80 : decode cL_areHats 80 = .ok (.iload 7, 2) := by decide +kernel
theorem dL_areHats_82 : decode cL_areHats 82 = .ok (.iload_n 3, 1) := by decide +kernel
theorem dL_areHats_83 : decode cL_areHats 83 = .ok (.iconst 0, 1) := by decide +kernel
theorem dL_areHats_84 : decode cL_areHats 84 = .ok (.invokevirtual 188, 3) := by decide +kernel
theorem dL_areHats_87 : decode cL_areHats 87 = .ok (.istore 8, 2) := by decide +kernel
theorem dL_areHats_89 : decode cL_areHats 89 = .ok (.aload_n 0, 1) := by decide +kernel
theorem dL_areHats_90 : decode cL_areHats 90 = .ok (.iload 5, 2) := by decide +kernel
theorem dL_areHats_92 : decode cL_areHats 92 = .ok (.iload 6, 2) := by decide +kernel
theorem dL_areHats_94 : decode cL_areHats 94 = .ok (.iload 7, 2) := by decide +kernel
theorem dL_areHats_96 : decode cL_areHats 96 = .ok (.iload_n 3, 1) := by decide +kernel
theorem dL_areHats_97 : decode cL_areHats 97 = .ok (.iconst 1, 1) := by decide +kernel
theorem dL_areHats_98 : decode cL_areHats 98 = .ok (.invokevirtual 188, 3) := by decide +kernel
theorem dL_areHats_101 : decode cL_areHats 101 = .ok (.istore 9, 2) := by decide +kernel
theorem dL_areHats_103 : decode cL_areHats 103 = .ok (.aload_n 0, 1) := by decide +kernel
theorem dL_areHats_104 : decode cL_areHats 104 = .ok (.iload 5, 2) := by decide +kernel
theorem dL_areHats_106 : decode cL_areHats 106 = .ok (.iload 6, 2) := by decide +kernel
theorem dL_areHats_108 : decode cL_areHats 108 = .ok (.iload 7, 2) := by decide +kernel
theorem dL_areHats_110 : decode cL_areHats 110 = .ok (.iload_n 3, 1) := by decide +kernel
theorem dL_areHats_111 : decode cL_areHats 111 = .ok (.iconst 2, 1) := by decide +kernel
theorem dL_areHats_112 : decode cL_areHats 112 = .ok (.invokevirtual 188, 3) := by decide +kernel
theorem dL_areHats_115 : decode cL_areHats 115 = .ok (.istore 10, 2) := by decide +kernel
theorem dL_areHats_117 : decode cL_areHats 117 = .ok (.iload 8, 2) := by decide +kernel
theorem dL_areHats_119 : decode cL_areHats 119 = .ok (.ifCond .lt 34, 3) := by decide +kernel
theorem dL_areHats_122 : decode cL_areHats 122 = .ok (.iload 5, 2) := by decide +kernel
theorem dL_areHats_124 : decode cL_areHats 124 = .ok (.iload 6, 2) := by decide +kernel
theorem dL_areHats_126 : decode cL_areHats 126 = .ok (.if_icmp .ge 27, 3) := by decide +kernel
theorem dL_areHats_129 : decode cL_areHats 129 = .ok (.iload 6, 2) := by decide +kernel
theorem dL_areHats_131 : decode cL_areHats 131 = .ok (.iload 7, 2) := by decide +kernel
theorem dL_areHats_133 : decode cL_areHats 133 = .ok (.if_icmp .ge 20, 3) := by decide +kernel
theorem dL_areHats_136 : decode cL_areHats 136 = .ok (.aload_n 0, 1) := by decide +kernel
theorem dL_areHats_137 : decode cL_areHats 137 = .ok (.iload 7, 2) := by decide +kernel
theorem dL_areHats_139 : decode cL_areHats 139 = .ok (.iload 5, 2) := by decide +kernel
theorem dL_areHats_141 : decode cL_areHats 141 = .ok (.iload 6, 2) := by decide +kernel
theorem dL_areHats_143 : decode cL_areHats 143 = .ok (.iload_n 3, 1) := by decide +kernel
theorem dL_areHats_144 : decode cL_areHats 144 = .ok (.iconst 0, 1) := by decide +kernel
theorem dL_areHats_145 : decode cL_areHats 145 = .ok (.invokevirtual 188, 3) := by decide +kernel
theorem dL_areHats_148 : decode cL_areHats 148 = .ok (.iload 8, 2) := by decide +kernel
theorem dL_areHats_150 : decode cL_areHats 150 = .ok (.if_icmp .eq 5, 3) := by decide +kernel
theorem dL_areHats_153 : decode cL_areHats 153 = .ok (.iconst 0, 1) := by decide +kernel
theorem dL_areHats_154 : decode cL_areHats 154 = .ok (.ireturn, 1) := by decide +kernel
theorem dL_areHats_155 : decode cL_areHats 155 = .ok (.iload_n 1, 1) := by decide +kernel
theorem dL_areHats_156 : decode cL_areHats 156 = .ok (.iconst 4, 1) := by decide +kernel
theorem dL_areHats_157 : decode cL_areHats 157 = .ok (.ishr, 1) := by decide +kernel
theorem dL_areHats_158 : decode cL_areHats 158 = .ok (.iload_n 2, 1) := by decide +kernel
theorem dL_areHats_159 : decode cL_areHats 159 = .ok (.invokestatic 27, 3) := by decide +kernel
theorem dL_areHats_162 : decode cL_areHats 162 = .ok (.istore 11, 2) := by decide +kernel
theorem dL_areHats_164 : decode cL_areHats 164 = .ok (.iload_n 1, 1) := by decide +kernel
theorem dL_areHats_165 : decode cL_areHats 165 = .ok (.bipush 6, 2) := by decide +kernel
theorem dL_areHats_167 : decode cL_areHats 167 = .ok (.ishr, 1) := by decide +kernel
theorem dL_areHats_168 : decode cL_areHats 168 = .ok (.iload_n 2, 1) := by decide +kernel
theorem dL_areHats_169 : decode cL_areHats 169 = .ok (.invokestatic 27, 3) := by decide +kernel
theorem dL_areHats_172 : decode cL_areHats 172 = .ok (.istore 12, 2) := by decide +kernel
theorem dL_areHats_174 : decode cL_areHats 174 = .ok (.iload_n 1, 1) := by decide +kernel
theorem dL_areHats_175 : decode cL_areHats 175 = .ok (.bipush 8, 2) := by decide +kernel
theorem dL_areHats_177 : decode cL_areHats 177 = .ok (.ishr, 1) := by decide +kernel
theorem dL_areHats_178 : decode cL_areHats 178 = .ok (.iload_n 2, 1) := by decide +kernel
theorem dL_areHats_179 : decode cL_areHats 179 = .ok (.invokestatic 27, 3) := by decide +kernel
theorem dL_areHats_182 : decode cL_areHats 182 = .ok (.istore 13, 2) := by decide +kernel
theorem dL_areHats_184 : decode cL_areHats 184 = .ok (.aload_n 0, 1) := by decide +kernel
theorem dL_areHats_185 : decode cL_areHats 185 = .ok (.iload 11, 2) := by decide +kernel
theorem dL_areHats_187 : decode cL_areHats 187 = .ok (.iload 12, 2) := by decide +kernel
theorem dL_areHats_189 : decode cL_areHats 189 = .ok (.iload 13, 2) := by decide +kernel
theorem dL_areHats_191 : decode cL_areHats 191 = .ok (.iload_n 3, 1) := by decide +kernel
theorem dL_areHats_192 : decode cL_areHats 192 = .ok (.iconst 0, 1) := by decide +kernel
theorem dL_areHats_193 : decode cL_areHats 193 = .ok (.invokevirtual 188, 3) := by decide +kernel
theorem dL_areHats_196 : decode cL_areHats 196 = .ok (.istore 14, 2) := by decide +kernel
theorem dL_areHats_198 : decode cL_areHats 198 = .ok (.iload 14, 2) := by decide +kernel
theorem dL_areHats_200 : decode cL_areHats 200 = .ok (.ifCond .lt 26, 3) := by decide +kernel
theorem dL_areHats_203 : decode cL_areHats 203 = .ok (.iload 11, 2) := by decide +kernel
theorem dL_areHats_205 : decode cL_areHats 205 = .ok (.iload 12, 2) := by decide +kernel
theorem dL_areHats_207 : decode cL_areHats 207 = .ok (.if_icmp .ge 19, 3) := by decide +kernel
theorem dL_areHats_210 : decode cL_areHats 210 = .ok (.iload 12, 2) := by decide +kernel
theorem dL_areHats_212 : decode cL_areHats 212 = .ok (.iload 13, 2) := by decide +kernel
theorem dL_areHats_214 : decode cL_areHats 214 = .ok (.if_icmp .ge 12, 3) := by decide +kernel
theorem dL_areHats_217 : decode cL_areHats 217 = .ok (.iload 14, 2) := by decide +kernel
theorem dL_areHats_219 : decode cL_areHats 219 = .ok (.iload 8, 2) := by decide +kernel
theorem dL_areHats_221 : decode cL_areHats 221 = .ok (.if_icmp .ge 5, 3) := by decide +kernel
theorem dL_areHats_224 : decode cL_areHats 224 = .ok (.iconst 0, 1) := by decide +kernel
theorem dL_areHats_225 : decode cL_areHats 225 = .ok (.ireturn, 1) := by decide +kernel
theorem dL_areHats_226 : decode cL_areHats 226 = .ok (.aload_n 0, 1) := by decide +kernel
theorem dL_areHats_227 : decode cL_areHats 227 = .ok (.iload 5, 2) := by decide +kernel
theorem dL_areHats_229 : decode cL_areHats 229 = .ok (.iload 6, 2) := by decide +kernel
theorem dL_areHats_231 : decode cL_areHats 231 = .ok (.iload_n 3, 1) := by decide +kernel
theorem dL_areHats_232 : decode cL_areHats 232 = .ok (.iconst 0, 1) := by decide +kernel
theorem dL_areHats_233 : decode cL_areHats 233 = .ok (.invokevirtual 173, 3) := by decide +kernel
theorem dL_areHats_236 : decode cL_areHats 236 = .ok (.istore 15, 2) := by decide +kernel
theorem dL_areHats_238 : decode cL_areHats 238 = .ok (.aload_n 0, 1) := by decide +kernel
theorem dL_areHats_239 : decode cL_areHats 239 = .ok (.iload 5, 2) := by decide +kernel
theorem dL_areHats_241 : decode cL_areHats 241 = .ok (.iload 6, 2) := by decide +kernel
theorem dL_areHats_243 : decode cL_areHats 243 = .ok (.iload_n 3, 1) := by decide +kernel
theorem dL_areHats_244 : decode cL_areHats 244 = .ok (.iconst 1, 1) := by decide +kernel
theorem dL_areHats_245 : decode cL_areHats 245 = .ok (.invokevirtual 173, 3) := by decide +kernel
theorem dL_areHats_248 : decode cL_areHats 248 = .ok (.istore 16, 2) := by decide +kernel
theorem dL_areHats_250 : decode cL_areHats 250 = .ok (.aload_n 0, 1) := by decide +kernel
theorem dL_areHats_251 : decode cL_areHats 251 = .ok (.iload 5, 2) := by decide +kernel
theorem dL_areHats_253 : decode cL_areHats 253 = .ok (.iload 6, 2) := by decide +kernel
theorem dL_areHats_255 : decode cL_areHats 255 = .ok (.iload 7, 2) := by decide +kernel
theorem dL_areHats_257 : decode cL_areHats 257 = .ok (.iload_n 3, 1) := by decide +kernel
theorem dL_areHats_258 : decode cL_areHats 258 = .ok (.iload 15, 2) := by decide +kernel
theorem dL_areHats_260 : decode cL_areHats 260 = .ok (.iload 16, 2) := by decide +kernel
theorem dL_areHats_262 : decode cL_areHats 262 = .ok (.invokevirtual 191, 3) := by decide +kernel
theorem dL_areHats_265 : decode cL_areHats 265 = .ok (.istore 17, 2) := by decide +kernel
theorem dL_areHats_267 : decode cL_areHats 267 = .ok (.iload 17, 2) := by decide +kernel
theorem dL_areHats_269 : decode cL_areHats 269 = .ok (.ifCond .eq 47, 3) := by decide +kernel
theorem dL_areHats_272 : decode cL_areHats 272 = .ok (.iload 8, 2) := by decide +kernel
theorem dL_areHats_274 : decode cL_areHats 274 = .ok (.sipush 400, 3) := by decide +kernel
theorem dL_areHats_277 : decode cL_areHats 277 = .ok (.if_icmp .lt 35, 3) := by decide +kernel
theorem dL_areHats_280 : decode cL_areHats 280 = .ok (.aload_n 0, 1) := by decide +kernel
theorem dL_areHats_281 : decode cL_areHats 281 = .ok (.iload 5, 2) := by decide +kernel
theorem dL_areHats_283 : decode cL_areHats 283 = .ok (.iload 6, 2) := by decide +kernel
theorem dL_areHats_285 : decode cL_areHats 285 = .ok (.iload 7, 2) := by decide +kernel
theorem dL_areHats_287 : decode cL_areHats 287 = .ok (.iload_n 3, 1) := by decide +kernel
theorem dL_areHats_288 : decode cL_areHats 288 = .ok (.invokestatic 195, 3) := by decide +kernel
theorem dL_areHats_291 : decode cL_areHats 291 = .ok (.ifCond .ne 21, 3) := by decide +kernel
theorem dL_areHats_294 : decode cL_areHats 294 = .ok (.aload_n 0, 1) := by decide +kernel
theorem dL_areHats_295 : decode cL_areHats 295 = .ok (.iload 5, 2) := by decide +kernel
theorem dL_areHats_297 : decode cL_areHats 297 = .ok (.iload 6, 2) := by decide +kernel
theorem dL_areHats_299 : decode cL_areHats 299 = .ok (.iload 7, 2) := by decide +kernel
theorem dL_areHats_301 : decode cL_areHats 301 = .ok (.iload_n 3, 1) := by decide +kernel
theorem dL_areHats_302 : decode cL_areHats 302 = .ok (.iload 9, 2) := by decide +kernel
theorem dL_areHats_304 : decode cL_areHats 304 = .ok (.iload 10, 2) := by decide +kernel
theorem dL_areHats_306 : decode cL_areHats 306 = .ok (.invokevirtual 191, 3) := by decide +kernel
theorem dL_areHats_309 : decode cL_areHats 309 = .ok (.ifCond .eq 7, 3) := by decide +kernel
theorem dL_areHats_312 : decode cL_areHats 312 = .ok (.iconst 1, 1) := by decide +kernel
theorem dL_areHats_313 : decode cL_areHats 313 = .ok (.goto 4, 3) := by decide +kernel
theorem dL_areHats_316 : decode cL_areHats 316 = .ok (.iconst 0, 1) := by decide +kernel
theorem dL_areHats_317 : decode cL_areHats 317 = .ok (.ireturn, 1) := by decide +kernel
theorem dL_isThin_0 : decode cL_isThin 0 = .ok (.aload_n 0, 1) := by decide +kernel
theorem dL_isThin_1 : decode cL_isThin 1 = .ok (.iload_n 1, 1) := by decide +kernel
theorem dL_isThin_2 : decode cL_isThin 2 = .ok (.iload_n 2, 1) := by decide +kernel
theorem dL_isThin_3 : decode cL_isThin 3 = .ok (.iload 4, 2) := by decide +kernel
theorem dL_isThin_5 : decode cL_isThin 5 = .ok (.iconst 0, 1) := by decide +kernel
theorem dL_isThin_6 : decode cL_isThin 6 = .ok (.invokevirtual 173, 3) := by decide +kernel
theorem dL_isThin_9 : decode cL_isThin 9 = .ok (.i2l, 1) := by decide +kernel
theorem dL_isThin_10 : decode cL_isThin 10 = .ok (.lstore 5, 2) := by decide +kernel
theorem dL_isThin_12 : decode cL_isThin 12 = .ok (.aload_n 0, 1) := by decide +kernel
theorem dL_isThin_13 : decode cL_isThin 13 = .ok (.iload_n 1, 1) := by decide +kernel
theorem dL_isThin_14 : decode cL_isThin 14 = .ok (.iload_n 2, 1) := by decide +kernel
theorem dL_isThin_15 : decode cL_isThin 15 = .ok (.iload 4, 2) := by decide +kernel
theorem dL_isThin_17 : decode cL_isThin 17 = .ok (.iconst 1, 1) := by decide +kernel
theorem dL_isThin_18 : decode cL_isThin 18 = .ok (.invokevirtual 173, 3) := by decide +kernel
theorem dL_isThin_21 : decode cL_isThin 21 = .ok (.i2l, 1) := by decide +kernel
theorem dL_isThin_22 : decode cL_isThin 22 = .ok (.lstore 7, 2) := by decide +kernel
theorem dL_isThin_24 : decode cL_isThin 24 = .ok (.lconst 0, 1) := by decide +kernel
theorem dL_isThin_25 : decode cL_isThin 25 = .ok (.lstore 9, 2) := by decide +kernel
theorem dL_isThin_27 : decode cL_isThin 27 = .ok (.iconst 2, 1) := by decide +kernel
theorem dL_isThin_28 : decode cL_isThin 28 = .ok (.anewarray 199, 3) := by decide +kernel
theorem dL_isThin_31 : decode cL_isThin 31 = .ok (.dup, 1) := by decide +kernel
theorem dL_isThin_32 : decode cL_isThin 32 = .ok (.iconst 0, 1) := by decide +kernel
theorem dL_isThin_33 : decode cL_isThin 33 = .ok (.iconst 2, 1) := by decide +kernel
theorem dL_isThin_34 : decode cL_isThin 34 = .ok (.newarray .int, 2) := by decide +kernel
theorem dL_isThin_36 : decode cL_isThin 36 = .ok (.dup, 1) := by decide +kernel
theorem dL_isThin_37 : decode cL_isThin 37 = .ok (.iconst 0, 1) := by decide +kernel
theorem dL_isThin_38 : decode cL_isThin 38 = .ok (.iload_n 1, 1) := by decide +kernel
theorem dL_isThin_39 : decode cL_isThin 39 = .ok (.iastore, 1) := by decide +kernel
theorem dL_isThin_40 : decode cL_isThin 40 = .ok (.dup, 1) := by decide +kernel
theorem dL_isThin_41 : decode cL_isThin 41 = .ok (.iconst 1, 1) := by decide +kernel
theorem dL_isThin_42 : decode cL_isThin 42 = .ok (.iload_n 3, 1) := by decide +kernel
theorem dL_isThin_43 : decode cL_isThin 43 = .ok (.iastore, 1) := by decide +kernel
theorem dL_isThin_44 : decode cL_isThin 44 = .ok (.aastore, 1) := by decide +kernel
theorem dL_isThin_45 : decode cL_isThin 45 = .ok (.dup, 1) := by decide +kernel
theorem dL_isThin_46 : decode cL_isThin 46 = .ok (.iconst 1, 1) := by decide +kernel
theorem dL_isThin_47 : decode cL_isThin 47 = .ok (.iconst 2, 1) := by decide +kernel
theorem dL_isThin_48 : decode cL_isThin 48 = .ok (.newarray .int, 2) := by decide +kernel
theorem dL_isThin_50 : decode cL_isThin 50 = .ok (.dup, 1) := by decide +kernel
theorem dL_isThin_51 : decode cL_isThin 51 = .ok (.iconst 0, 1) := by decide +kernel
theorem dL_isThin_52 : decode cL_isThin 52 = .ok (.iload_n 2, 1) := by decide +kernel
theorem dL_isThin_53 : decode cL_isThin 53 = .ok (.iastore, 1) := by decide +kernel
theorem dL_isThin_54 : decode cL_isThin 54 = .ok (.dup, 1) := by decide +kernel
theorem dL_isThin_55 : decode cL_isThin 55 = .ok (.iconst 1, 1) := by decide +kernel
theorem dL_isThin_56 : decode cL_isThin 56 = .ok (.iload_n 3, 1) := by decide +kernel
theorem dL_isThin_57 : decode cL_isThin 57 = .ok (.iastore, 1) := by decide +kernel
theorem dL_isThin_58 : decode cL_isThin 58 = .ok (.aastore, 1) := by decide +kernel
theorem dL_isThin_59 : decode cL_isThin 59 = .ok (.astore 11, 2) := by decide +kernel
theorem dL_isThin_61 : decode cL_isThin 61 = .ok (.aload 11, 2) := by decide +kernel
theorem dL_isThin_63 : decode cL_isThin 63 = .ok (.astore 12, 2) := by decide +kernel
theorem dL_isThin_65 : decode cL_isThin 65 = .ok (.aload 12, 2) := by decide +kernel
theorem dL_isThin_67 : decode cL_isThin 67 = .ok (.arraylength, 1) := by decide +kernel
theorem dL_isThin_68 : decode cL_isThin 68 = .ok (.istore 13, 2) := by decide +kernel
theorem dL_isThin_70 : decode cL_isThin 70 = .ok (.iconst 0, 1) := by decide +kernel
theorem dL_isThin_71 : decode cL_isThin 71 = .ok (.istore 14, 2) := by decide +kernel
theorem dL_isThin_73 : decode cL_isThin 73 = .ok (.iload 14, 2) := by decide +kernel
theorem dL_isThin_75 : decode cL_isThin 75 = .ok (.iload 13, 2) := by decide +kernel
theorem dL_isThin_77 : decode cL_isThin 77 = .ok (.if_icmp .ge 68, 3) := by decide +kernel
theorem dL_isThin_80 : decode cL_isThin 80 = .ok (.aload 12, 2) := by decide +kernel
theorem dL_isThin_82 : decode cL_isThin 82 = .ok (.iload 14, 2) := by decide +kernel
theorem dL_isThin_84 : decode cL_isThin 84 = .ok (.aaload, 1) := by decide +kernel
theorem dL_isThin_85 : decode cL_isThin 85 = .ok (.astore 15, 2) := by decide +kernel
theorem dL_isThin_87 : decode cL_isThin 87 = .ok (.lload 9, 2) := by decide +kernel
theorem dL_isThin_89 : decode cL_isThin 89 = .ok (.aload_n 0, 1) := by decide +kernel
theorem dL_isThin_90 : decode cL_isThin 90 = .ok (.aload 15, 2) := by decide +kernel
theorem dL_isThin_92 : decode cL_isThin 92 = .ok (.iconst 0, 1) := by decide +kernel
theorem dL_isThin_93 : decode cL_isThin 93 = .ok (.iaload, 1) := by decide +kernel
theorem dL_isThin_94 : decode cL_isThin 94 = .ok (.aload 15, 2) := by decide +kernel
theorem dL_isThin_96 : decode cL_isThin 96 = .ok (.iconst 1, 1) := by decide +kernel
theorem dL_isThin_97 : decode cL_isThin 97 = .ok (.iaload, 1) := by decide +kernel
theorem dL_isThin_98 : decode cL_isThin 98 = .ok (.iload 4, 2) := by decide +kernel
theorem dL_isThin_100 : decode cL_isThin 100 = .ok (.iconst 0, 1) := by decide +kernel
theorem dL_isThin_101 : decode cL_isThin 101 = .ok (.invokevirtual 173, 3) := by decide +kernel
theorem dL_isThin_104 : decode cL_isThin 104 = .ok (.i2l, 1) := by decide +kernel
theorem dL_isThin_105 : decode cL_isThin 105 = .ok (.lload 5, 2) := by decide +kernel
theorem dL_isThin_107 : decode cL_isThin 107 = .ok (.lsub, 1) := by decide +kernel
theorem dL_isThin_108 : decode cL_isThin 108 = .ok (.invokestatic 170, 3) := by decide +kernel
theorem dL_isThin_111 : decode cL_isThin 111 = .ok (.aload_n 0, 1) := by decide +kernel
theorem dL_isThin_112 : decode cL_isThin 112 = .ok (.aload 15, 2) := by decide +kernel
theorem dL_isThin_114 : decode cL_isThin 114 = .ok (.iconst 0, 1) := by decide +kernel
theorem dL_isThin_115 : decode cL_isThin 115 = .ok (.iaload, 1) := by decide +kernel
theorem dL_isThin_116 : decode cL_isThin 116 = .ok (.aload 15, 2) := by decide +kernel
theorem dL_isThin_118 : decode cL_isThin 118 = .ok (.iconst 1, 1) := by decide +kernel
theorem dL_isThin_119 : decode cL_isThin 119 = .ok (.iaload, 1) := by decide +kernel
theorem dL_isThin_120 : decode cL_isThin 120 = .ok (.iload 4, 2) := by decide +kernel
theorem dL_isThin_122 : decode cL_isThin 122 = .ok (.iconst 1, 1) := by decide +kernel
theorem dL_isThin_123 : decode cL_isThin 123 = .ok (.invokevirtual 173, 3) := by decide +kernel
theorem dL_isThin_126 : decode cL_isThin 126 = .ok (.i2l, 1) := by decide +kernel
theorem dL_isThin_127 : decode cL_isThin 127 = .ok (.lload 7, 2) := by decide +kernel
theorem dL_isThin_129 : decode cL_isThin 129 = .ok (.lsub, 1) := by decide +kernel
theorem dL_isThin_130 : decode cL_isThin 130 = .ok (.invokestatic 170, 3) := by decide +kernel
theorem dL_isThin_133 : decode cL_isThin 133 = .ok (.ladd, 1) := by decide +kernel
theorem dL_isThin_134 : decode cL_isThin 134 = .ok (.invokestatic 201, 3) := by decide +kernel
theorem dL_isThin_137 : decode cL_isThin 137 = .ok (.lstore 9, 2) := by decide +kernel
theorem dL_isThin_139 : decode cL_isThin 139 = .ok (.iinc 14 1, 3) := by decide +kernel
theorem dL_isThin_142 : decode cL_isThin 142 = .ok (.goto (-69), 3) := by decide +kernel
theorem dL_isThin_145 : decode cL_isThin 145 = .ok (.ldc2_w 204, 3) := by decide +kernel
theorem dL_isThin_148 : decode cL_isThin 148 = .ok (.aload_n 0, 1) := by decide +kernel
theorem dL_isThin_149 : decode cL_isThin 149 = .ok (.iload_n 1, 1) := by decide +kernel
theorem dL_isThin_150 : decode cL_isThin 150 = .ok (.iload_n 2, 1) := by decide +kernel
theorem dL_isThin_151 : decode cL_isThin 151 = .ok (.iload_n 3, 1) := by decide +kernel
theorem dL_isThin_152 : decode cL_isThin 152 = .ok (.iload 4, 2) := by decide +kernel
theorem dL_isThin_154 : decode cL_isThin 154 = .ok (.iconst 0, 1) := by decide +kernel
theorem dL_isThin_155 : decode cL_isThin 155 = .ok (.invokevirtual 188, 3) := by decide +kernel
theorem dL_isThin_158 : decode cL_isThin 158 = .ok (.i2l, 1) := by decide +kernel
theorem dL_isThin_159 : decode cL_isThin 159 = .ok (.lmul, 1) := by decide +kernel
theorem dL_isThin_160 : decode cL_isThin 160 = .ok (.ldc2_w 206, 3) := by decide +kernel
theorem dL_isThin_163 : decode cL_isThin 163 = .ok (.lload 9, 2) := by decide +kernel
theorem dL_isThin_165 : decode cL_isThin 165 = .ok (.lmul, 1) := by decide +kernel
theorem dL_isThin_166 : decode cL_isThin 166 = .ok (.lcmp, 1) := by decide +kernel
theorem dL_isThin_167 : decode cL_isThin 167 = .ok (.ifCond .ge 7, 3) := by decide +kernel
theorem dL_isThin_170 : decode cL_isThin 170 = .ok (.iconst 1, 1) := by decide +kernel
theorem dL_isThin_171 : decode cL_isThin 171 = .ok (.goto 4, 3) := by decide +kernel
theorem dL_isThin_174 : decode cL_isThin 174 = .ok (.iconst 0, 1) := by decide +kernel
theorem dL_isThin_175 : decode cL_isThin 175 = .ok (.ireturn, 1) := by decide +kernel
theorem dL_isFix_0 : decode cL_isFix 0 = .ok (.iconst 1, 1) := by decide +kernel
theorem dL_isFix_1 : decode cL_isFix 1 = .ok (.iload_n 1, 1) := by decide +kernel
theorem dL_isFix_2 : decode cL_isFix 2 = .ok (.iconst 3, 1) := by decide +kernel
theorem dL_isFix_3 : decode cL_isFix 3 = .ok (.ishr, 1) := by decide +kernel
theorem dL_isFix_4 : decode cL_isFix 4 = .ok (.sipush 1500, 3) := by decide +kernel
theorem dL_isFix_7 : decode cL_isFix 7 = .ok (.invokestatic 27, 3) := by decide +kernel
theorem dL_isFix_10 : decode cL_isFix 10 = .ok (.iadd, 1) := by decide +kernel
theorem dL_isFix_11 : decode cL_isFix 11 = .ok (.istore_n 2, 1) := by decide +kernel
theorem dL_isFix_12 : decode cL_isFix 12 = .ok (.aload_n 0, 1) := by decide +kernel
theorem dL_isFix_13 : decode cL_isFix 13 = .ok (.iload_n 2, 1) := by decide +kernel
theorem dL_isFix_14 : decode cL_isFix 14 = .ok (.invokevirtual 208, 3) := by decide +kernel
theorem dL_isFix_17 : decode cL_isFix 17 = .ok (.istore_n 3, 1) := by decide +kernel
theorem dL_isFix_18 : decode cL_isFix 18 = .ok (.iload_n 3, 1) := by decide +kernel
theorem dL_isFix_19 : decode cL_isFix 19 = .ok (.ifCond .ge 40, 3) := by decide +kernel
theorem dL_isFix_22 : decode cL_isFix 22 = .ok (.aload_n 0, 1) := by decide +kernel
theorem dL_isFix_23 : decode cL_isFix 23 = .ok (.iload_n 2, 1) := by decide +kernel
theorem dL_isFix_24 : decode cL_isFix 24 = .ok (.iconst 0, 1) := by decide +kernel
theorem dL_isFix_25 : decode cL_isFix 25 = .ok (.invokevirtual 211, 3) := by decide +kernel
theorem dL_isFix_28 : decode cL_isFix 28 = .ok (.ldc 177, 2) := by decide +kernel
theorem dL_isFix_30 : decode cL_isFix 30 = .ok (.if_icmp .ne 27, 3) := by decide +kernel
theorem dL_isFix_33 : decode cL_isFix 33 = .ok (.aload_n 0, 1) := by decide +kernel
theorem dL_isFix_34 : decode cL_isFix 34 = .ok (.iload_n 2, 1) := by decide +kernel
theorem dL_isFix_35 : decode cL_isFix 35 = .ok (.invokevirtual 215, 3) := by decide +kernel
theorem dL_isFix_38 : decode cL_isFix 38 = .ok (.ldc 177, 2) := by decide +kernel
theorem dL_isFix_40 : decode cL_isFix 40 = .ok (.if_icmp .ne 17, 3) := by decide +kernel
theorem dL_isFix_43 : decode cL_isFix 43 = .ok (.aload_n 0, 1) := by decide +kernel
theorem dL_isFix_44 : decode cL_isFix 44 = .ok (.iload_n 2, 1) := by decide +kernel
theorem dL_isFix_45 : decode cL_isFix 45 = .ok (.invokevirtual 218, 3) := by decide +kernel
theorem dL_isFix_48 : decode cL_isFix 48 = .ok (.dconst 0, 1) := by decide +kernel
theorem dL_isFix_49 : decode cL_isFix 49 = .ok (.dcmp .l, 1) := by decide +kernel
theorem dL_isFix_50 : decode cL_isFix 50 = .ok (.ifCond .ne 7, 3) := by decide +kernel
theorem dL_isFix_53 : decode cL_isFix 53 = .ok (.iconst 1, 1) := by decide +kernel
theorem dL_isFix_54 : decode cL_isFix 54 = .ok (.goto 4, 3) := by decide +kernel
theorem dL_isFix_57 : decode cL_isFix 57 = .ok (.iconst 0, 1) := by decide +kernel
theorem dL_isFix_58 : decode cL_isFix 58 = .ok (.ireturn, 1) := by decide +kernel
theorem dL_isFix_59 : decode cL_isFix 59 = .ok (.aload_n 0, 1) := by decide +kernel
theorem dL_isFix_60 : decode cL_isFix 60 = .ok (.iload_n 3, 1) := by decide +kernel
theorem dL_isFix_61 : decode cL_isFix 61 = .ok (.iload_n 2, 1) := by decide +kernel
theorem dL_isFix_62 : decode cL_isFix 62 = .ok (.invokevirtual 222, 3) := by decide +kernel
theorem dL_isFix_65 : decode cL_isFix 65 = .ok (.invokestatic 86, 3) := by decide +kernel
theorem dL_isFix_68 : decode cL_isFix 68 = .ok (.i2l, 1) := by decide +kernel
theorem dL_isFix_69 : decode cL_isFix 69 = .ok (.lstore 4, 2) := by decide +kernel
theorem dL_isFix_71 : decode cL_isFix 71 = .ok (.dconst 0, 1) := by decide +kernel
theorem dL_isFix_72 : decode cL_isFix 72 = .ok (.dstore 6, 2) := by decide +kernel
theorem dL_isFix_74 : decode cL_isFix 74 = .ok (.iconst 0, 1) := by decide +kernel
theorem dL_isFix_75 : decode cL_isFix 75 = .ok (.istore 8, 2) := by decide +kernel
theorem dL_isFix_77 : decode cL_isFix 77 = .ok (.iload 8, 2) := by decide +kernel
theorem dL_isFix_79 : decode cL_isFix 79 = .ok (.aload_n 0, 1) := by decide +kernel
theorem dL_isFix_80 : decode cL_isFix 80 = .ok (.iconst 2, 1) := by decide +kernel
theorem dL_isFix_81 : decode cL_isFix 81 = .ok (.invokevirtual 126, 3) := by decide +kernel
theorem dL_isFix_84 : decode cL_isFix 84 = .ok (.if_icmp .ge 81, 3) := by decide +kernel
theorem dL_isFix_87 : decode cL_isFix 87 = .ok (.aload_n 0, 1) := by decide +kernel
theorem dL_isFix_88 : decode cL_isFix 88 = .ok (.iload 8, 2) := by decide +kernel
theorem dL_isFix_90 : decode cL_isFix 90 = .ok (.iload_n 2, 1) := by decide +kernel
theorem dL_isFix_91 : decode cL_isFix 91 = .ok (.invokevirtual 222, 3) := by decide +kernel
theorem dL_isFix_94 : decode cL_isFix 94 = .ok (.invokestatic 86, 3) := by decide +kernel
theorem dL_isFix_97 : decode cL_isFix 97 = .ok (.i2l, 1) := by decide +kernel
theorem dL_isFix_98 : decode cL_isFix 98 = .ok (.lstore 9, 2) := by decide +kernel
theorem dL_isFix_100 : decode cL_isFix 100 = .ok (.lload 9, 2) := by decide +kernel
theorem dL_isFix_102 : decode cL_isFix 102 = .ok (.lload 4, 2) := by decide +kernel
theorem dL_isFix_104 : decode cL_isFix 104 = .ok (.lcmp, 1) := by decide +kernel
theorem dL_isFix_105 : decode cL_isFix 105 = .ok (.ifCond .gt 44, 3) := by decide +kernel
theorem dL_isFix_108 : decode cL_isFix 108 = .ok (.lload 9, 2) := by decide +kernel
theorem dL_isFix_110 : decode cL_isFix 110 = .ok (.lload 4, 2) := by decide +kernel
theorem dL_isFix_112 : decode cL_isFix 112 = .ok (.lcmp, 1) := by decide +kernel
theorem dL_isFix_113 : decode cL_isFix 113 = .ok (.ifCond .ne 9, 3) := by decide +kernel
theorem dL_isFix_116 : decode cL_isFix 116 = .ok (.iload 8, 2) := by decide +kernel
theorem dL_isFix_118 : decode cL_isFix 118 = .ok (.iload_n 3, 1) := by decide +kernel
theorem dL_isFix_119 : decode cL_isFix 119 = .ok (.if_icmp .lt 30, 3) := by decide +kernel
theorem dL_isFix_122 : decode cL_isFix 122 = .ok (.lload 9, 2) := by decide +kernel
theorem dL_isFix_124 : decode cL_isFix 124 = .ok (.aload_n 0, 1) := by decide +kernel
theorem dL_isFix_125 : decode cL_isFix 125 = .ok (.iload 8, 2) := by decide +kernel
theorem dL_isFix_127 : decode cL_isFix 127 = .ok (.iload_n 2, 1) := by decide +kernel
theorem dL_isFix_128 : decode cL_isFix 128 = .ok (.aload_n 0, 1) := by decide +kernel
theorem dL_isFix_129 : decode cL_isFix 129 = .ok (.iload_n 2, 1) := by decide +kernel
theorem dL_isFix_130 : decode cL_isFix 130 = .ok (.iconst 0, 1) := by decide +kernel
theorem dL_isFix_131 : decode cL_isFix 131 = .ok (.invokevirtual 211, 3) := by decide +kernel
theorem dL_isFix_134 : decode cL_isFix 134 = .ok (.i2l, 1) := by decide +kernel
theorem dL_isFix_135 : decode cL_isFix 135 = .ok (.aload_n 0, 1) := by decide +kernel
theorem dL_isFix_136 : decode cL_isFix 136 = .ok (.iload_n 2, 1) := by decide +kernel
theorem dL_isFix_137 : decode cL_isFix 137 = .ok (.iconst 1, 1) := by decide +kernel
theorem dL_isFix_138 : decode cL_isFix 138 = .ok (.invokevirtual 211, 3) := by decide +kernel
theorem dL_isFix_141 : decode cL_isFix 141 = .ok (.i2l, 1) := by decide +kernel
theorem dL_isFix_142 : decode cL_isFix 142 = .ok (.invokestatic 179, 3) := by decide +kernel
theorem dL_isFix_145 : decode cL_isFix 145 = .ok (.lcmp, 1) := by decide +kernel
theorem dL_isFix_146 : decode cL_isFix 146 = .ok (.ifCond .eq 5, 3) := by decide +kernel
theorem dL_isFix_149 : decode cL_isFix 149 = .ok (.iconst 0, 1) := by decide +kernel
theorem dL_isFix_150 : decode cL_isFix 150 = .ok (.ireturn, 1) := by decide +kernel
theorem dL_isFix_151 : decode cL_isFix 151 = .ok (.dload 6, 2) := by decide +kernel
theorem dL_isFix_153 : decode cL_isFix 153 = .ok (.lload 9, 2) := by decide +kernel
theorem dL_isFix_155 : decode cL_isFix 155 = .ok (.l2d, 1) := by decide +kernel
theorem dL_isFix_156 : decode cL_isFix 156 = .ok (.dadd, 1) := by decide +kernel
theorem dL_isFix_157 : decode cL_isFix 157 = .ok (.dstore 6, 2) := by decide +kernel
theorem dL_isFix_159 : decode cL_isFix 159 = .ok (.iinc 8 1, 3) := by decide +kernel
theorem dL_isFix_162 : decode cL_isFix 162 = .ok (.goto (-85), 3) := by decide +kernel
theorem dL_isFix_165 : decode cL_isFix 165 = .ok (.aload_n 0, 1) := by decide +kernel
theorem dL_isFix_166 : decode cL_isFix 166 = .ok (.iload_n 2, 1) := by decide +kernel
theorem dL_isFix_167 : decode cL_isFix 167 = .ok (.iconst 0, 1) := by decide +kernel
theorem dL_isFix_168 : decode cL_isFix 168 = .ok (.invokevirtual 211, 3) := by decide +kernel
theorem dL_isFix_171 : decode cL_isFix 171 = .ok (.aload_n 0, 1) := by decide +kernel
theorem dL_isFix_172 : decode cL_isFix 172 = .ok (.iload_n 2, 1) := by decide +kernel
theorem dL_isFix_173 : decode cL_isFix 173 = .ok (.iconst 0, 1) := by decide +kernel
theorem dL_isFix_174 : decode cL_isFix 174 = .ok (.invokevirtual 225, 3) := by decide +kernel
theorem dL_isFix_177 : decode cL_isFix 177 = .ok (.isub, 1) := by decide +kernel
theorem dL_isFix_178 : decode cL_isFix 178 = .ok (.i2l, 1) := by decide +kernel
theorem dL_isFix_179 : decode cL_isFix 179 = .ok (.lstore 8, 2) := by decide +kernel
theorem dL_isFix_181 : decode cL_isFix 181 = .ok (.aload_n 0, 1) := by decide +kernel
theorem dL_isFix_182 : decode cL_isFix 182 = .ok (.iload_n 2, 1) := by decide +kernel
theorem dL_isFix_183 : decode cL_isFix 183 = .ok (.iconst 1, 1) := by decide +kernel
theorem dL_isFix_184 : decode cL_isFix 184 = .ok (.invokevirtual 211, 3) := by decide +kernel
theorem dL_isFix_187 : decode cL_isFix 187 = .ok (.aload_n 0, 1) := by decide +kernel
theorem dL_isFix_188 : decode cL_isFix 188 = .ok (.iload_n 2, 1) := by decide +kernel
theorem dL_isFix_189 : decode cL_isFix 189 = .ok (.iconst 1, 1) := by decide +kernel
theorem dL_isFix_190 : decode cL_isFix 190 = .ok (.invokevirtual 225, 3) := by decide +kernel
theorem dL_isFix_193 : decode cL_isFix 193 = .ok (.isub, 1) := by decide +kernel
theorem dL_isFix_194 : decode cL_isFix 194 = .ok (.i2l, 1) := by decide +kernel
theorem dL_isFix_195 : decode cL_isFix 195 = .ok (.lstore 10, 2) := by decide +kernel
theorem dL_isFix_197 : decode cL_isFix 197 = .ok (.aload_n 0, 1) := by decide +kernel
theorem dL_isFix_198 : decode cL_isFix 198 = .ok (.iload_n 2, 1) := by decide +kernel
theorem dL_isFix_199 : decode cL_isFix 199 = .ok (.invokevirtual 215, 3) := by decide +kernel
theorem dL_isFix_202 : decode cL_isFix 202 = .ok (.i2l, 1) := by decide +kernel
theorem dL_isFix_203 : decode cL_isFix 203 = .ok (.lstore 12, 2) := by decide +kernel
theorem dL_isFix_205 : decode cL_isFix 205 = .ok (.lload 12, 2) := by decide +kernel
theorem dL_isFix_207 : decode cL_isFix 207 = .ok (.lload 12, 2) := by decide +kernel
theorem dL_isFix_209 : decode cL_isFix 209 = .ok (.lmul, 1) := by decide +kernel
theorem dL_isFix_210 : decode cL_isFix 210 = .ok (.lload 8, 2) := by decide +kernel
theorem dL_isFix_212 : decode cL_isFix 212 = .ok (.lload 8, 2) := by decide +kernel
theorem dL_isFix_214 : decode cL_isFix 214 = .ok (.lmul, 1) := by decide +kernel
theorem dL_isFix_215 : decode cL_isFix 215 = .ok (.lload 10, 2) := by decide +kernel
theorem dL_isFix_217 : decode cL_isFix 217 = .ok (.lload 10, 2) := by decide +kernel
theorem dL_isFix_219 : decode cL_isFix 219 = .ok (.lmul, 1) := by decide +kernel
theorem dL_isFix_220 : decode cL_isFix 220 = .ok (.ladd, 1) := by decide +kernel
theorem dL_isFix_221 : decode cL_isFix 221 = .ok (.lcmp, 1) := by decide +kernel
theorem dL_isFix_222 : decode cL_isFix 222 = .ok (.ifCond .gt 47, 3) := by decide +kernel
theorem dL_isFix_225 : decode cL_isFix 225 = .ok (.lload 12, 2) := by decide +kernel
theorem dL_isFix_227 : decode cL_isFix 227 = .ok (.lconst 1, 1) := by decide +kernel
theorem dL_isFix_228 : decode cL_isFix 228 = .ok (.ladd, 1) := by decide +kernel
theorem dL_isFix_229 : decode cL_isFix 229 = .ok (.lload 12, 2) := by decide +kernel
theorem dL_isFix_231 : decode cL_isFix 231 = .ok (.lconst 1, 1) := by decide +kernel
theorem dL_isFix_232 : decode cL_isFix 232 = .ok (.ladd, 1) := by decide +kernel
theorem dL_isFix_233 : decode cL_isFix 233 = .ok (.lmul, 1) := by decide +kernel
theorem dL_isFix_234 : decode cL_isFix 234 = .ok (.lload 8, 2) := by decide +kernel
theorem dL_isFix_236 : decode cL_isFix 236 = .ok (.lload 8, 2) := by decide +kernel
theorem dL_isFix_238 : decode cL_isFix 238 = .ok (.lmul, 1) := by decide +kernel
theorem dL_isFix_239 : decode cL_isFix 239 = .ok (.lload 10, 2) := by decide +kernel
theorem dL_isFix_241 : decode cL_isFix 241 = .ok (.lload 10, 2) := by decide +kernel
theorem dL_isFix_243 : decode cL_isFix 243 = .ok (.lmul, 1) := by decide +kernel
theorem dL_isFix_244 : decode cL_isFix 244 = .ok (.ladd, 1) := by decide +kernel
theorem dL_isFix_245 : decode cL_isFix 245 = .ok (.lcmp, 1) := by decide +kernel
theorem dL_isFix_246 : decode cL_isFix 246 = .ok (.ifCond .le 23, 3) := by decide +kernel
theorem dL_isFix_249 : decode cL_isFix 249 = .ok (.aload_n 0, 1) := by decide +kernel
theorem dL_isFix_250 : decode cL_isFix 250 = .ok (.iload_n 2, 1) := by decide +kernel
theorem dL_isFix_251 : decode cL_isFix 251 = .ok (.iconst 1, 1) := by decide +kernel
theorem dL_isFix_252 : decode cL_isFix 252 = .ok (.invokevirtual 228, 3) := by decide +kernel
theorem dL_isFix_255 : decode cL_isFix 255 = .ok (.i2l, 1) := by decide +kernel
theorem dL_isFix_256 : decode cL_isFix 256 = .ok (.ldc2_w 231, 3) := by decide +kernel
theorem dL_isFix_259 : decode cL_isFix 259 = .ok (.lload 12, 2) := by decide +kernel
theorem dL_isFix_261 : decode cL_isFix 261 = .ok (.lmul, 1) := by decide +kernel
theorem dL_isFix_262 : decode cL_isFix 262 = .ok (.iload_n 2, 1) := by decide +kernel
theorem dL_isFix_263 : decode cL_isFix 263 = .ok (.i2l, 1) := by decide +kernel
theorem dL_isFix_264 : decode cL_isFix 264 = .ok (.ldiv, 1) := by decide +kernel
theorem dL_isFix_265 : decode cL_isFix 265 = .ok (.lcmp, 1) := by decide +kernel
theorem dL_isFix_266 : decode cL_isFix 266 = .ok (.ifCond .eq 5, 3) := by decide +kernel
theorem dL_isFix_269 : decode cL_isFix 269 = .ok (.iconst 0, 1) := by decide +kernel
theorem dL_isFix_270 : decode cL_isFix 270 = .ok (.ireturn, 1) := by decide +kernel
theorem dL_isFix_271 : decode cL_isFix 271 = .ok (.aload_n 0, 1) := by decide +kernel
theorem dL_isFix_272 : decode cL_isFix 272 = .ok (.iload_n 2, 1) := by decide +kernel
theorem dL_isFix_273 : decode cL_isFix 273 = .ok (.iconst 0, 1) := by decide +kernel
theorem dL_isFix_274 : decode cL_isFix 274 = .ok (.invokevirtual 228, 3) := by decide +kernel
theorem dL_isFix_277 : decode cL_isFix 277 = .ok (.ifCond .lt 49, 3) := by decide +kernel
theorem dL_isFix_280 : decode cL_isFix 280 = .ok (.aload_n 0, 1) := by decide +kernel
theorem dL_isFix_281 : decode cL_isFix 281 = .ok (.iload_n 2, 1) := by decide +kernel
theorem dL_isFix_282 : decode cL_isFix 282 = .ok (.iconst 0, 1) := by decide +kernel
theorem dL_isFix_283 : decode cL_isFix 283 = .ok (.invokevirtual 228, 3) := by decide +kernel
theorem dL_isFix_286 : decode cL_isFix 286 = .ok (.sipush 21599, 3) := by decide +kernel
theorem dL_isFix_289 : decode cL_isFix 289 = .ok (.if_icmp .gt 37, 3) := by decide +kernel
theorem dL_isFix_292 : decode cL_isFix 292 = .ok (.aload_n 0, 1) := by decide +kernel
theorem dL_isFix_293 : decode cL_isFix 293 = .ok (.iload_n 2, 1) := by decide +kernel
theorem dL_isFix_294 : decode cL_isFix 294 = .ok (.invokevirtual 218, 3) := by decide +kernel
theorem dL_isFix_297 : decode cL_isFix 297 = .ok (.aload_n 0, 1) := by decide +kernel
theorem dL_isFix_298 : decode cL_isFix 298 = .ok (.iconst 2, 1) := by decide +kernel
theorem dL_isFix_299 : decode cL_isFix 299 = .ok (.invokevirtual 126, 3) := by decide +kernel
theorem dL_isFix_302 : decode cL_isFix 302 = .ok (.i2d, 1) := by decide +kernel
theorem dL_isFix_303 : decode cL_isFix 303 = .ok (.dmul, 1) := by decide +kernel
theorem dL_isFix_304 : decode cL_isFix 304 = .ok (.dload 6, 2) := by decide +kernel
theorem dL_isFix_306 : decode cL_isFix 306 = .ok (.dsub, 1) := by decide +kernel
theorem dL_isFix_307 : decode cL_isFix 307 = .ok (.invokestatic 233, 3) := by decide +kernel
theorem dL_isFix_310 : decode cL_isFix 310 = .ok (.ldc2_w 236, 3) := by decide +kernel
theorem dL_isFix_313 : decode cL_isFix 313 = .ok (.dconst 1, 1) := by decide +kernel
theorem dL_isFix_314 : decode cL_isFix 314 = .ok (.dload 6, 2) := by decide +kernel
theorem dL_isFix_316 : decode cL_isFix 316 = .ok (.dadd, 1) := by decide +kernel
theorem dL_isFix_317 : decode cL_isFix 317 = .ok (.dmul, 1) := by decide +kernel
theorem dL_isFix_318 : decode cL_isFix 318 = .ok (.dcmp .g, 1) := by decide +kernel
theorem dL_isFix_319 : decode cL_isFix 319 = .ok (.ifCond .gt 7, 3) := by decide +kernel
theorem dL_isFix_322 : decode cL_isFix 322 = .ok (.iconst 1, 1) := by decide +kernel
theorem dL_isFix_323 : decode cL_isFix 323 = .ok (.goto 4, 3) := by decide +kernel
theorem dL_isFix_326 : decode cL_isFix 326 = .ok (.iconst 0, 1) := by decide +kernel
theorem dL_isFix_327 : decode cL_isFix 327 = .ok (.ireturn, 1) := by decide +kernel
theorem dL_isTold_0 : decode cL_isTold 0 = .ok (.iload_n 2, 1) := by decide +kernel
theorem dL_isTold_1 : decode cL_isTold 1 = .ok (.sipush 5000, 3) := by decide +kernel
theorem dL_isTold_4 : decode cL_isTold 4 = .ok (.invokestatic 27, 3) := by decide +kernel
theorem dL_isTold_7 : decode cL_isTold 7 = .ok (.istore_n 3, 1) := by decide +kernel
theorem dL_isTold_8 : decode cL_isTold 8 = .ok (.aload_n 0, 1) := by decide +kernel
theorem dL_isTold_9 : decode cL_isTold 9 = .ok (.aload_n 1, 1) := by decide +kernel
theorem dL_isTold_10 : decode cL_isTold 10 = .ok (.ldc 238, 2) := by decide +kernel
theorem dL_isTold_12 : decode cL_isTold 12 = .ok (.iload_n 3, 1) := by decide +kernel
theorem dL_isTold_13 : decode cL_isTold 13 = .ok (.invokestatic 97, 3) := by decide +kernel
theorem dL_isTold_16 : decode cL_isTold 16 = .ok (.iconst 0, 1) := by decide +kernel
theorem dL_isTold_17 : decode cL_isTold 17 = .ok (.istore 4, 2) := by decide +kernel
theorem dL_isTold_19 : decode cL_isTold 19 = .ok (.iconst 0, 1) := by decide +kernel
theorem dL_isTold_20 : decode cL_isTold 20 = .ok (.istore 5, 2) := by decide +kernel
theorem dL_isTold_22 : decode cL_isTold 22 = .ok (.iload 5, 2) := by decide +kernel
theorem dL_isTold_24 : decode cL_isTold 24 = .ok (.aload_n 0, 1) := by decide +kernel
theorem dL_isTold_25 : decode cL_isTold 25 = .ok (.iconst 2, 1) := by decide +kernel
theorem dL_isTold_26 : decode cL_isTold 26 = .ok (.invokevirtual 126, 3) := by decide +kernel
theorem dL_isTold_29 : decode cL_isTold 29 = .ok (.if_icmp .ge 30, 3) := by decide +kernel
theorem dL_isTold_32 : decode cL_isTold 32 = .ok (.iload 4, 2) := by decide +kernel
theorem dL_isTold_34 : decode cL_isTold 34 = .ok (.aload_n 0, 1) := by decide +kernel
theorem dL_isTold_35 : decode cL_isTold 35 = .ok (.iload 5, 2) := by decide +kernel
theorem dL_isTold_37 : decode cL_isTold 37 = .ok (.iconst 4, 1) := by decide +kernel
theorem dL_isTold_38 : decode cL_isTold 38 = .ok (.invokevirtual 133, 3) := by decide +kernel
theorem dL_isTold_41 : decode cL_isTold 41 = .ok (.iload_n 3, 1) := by decide +kernel
theorem dL_isTold_42 : decode cL_isTold 42 = .ok (.if_icmp .le 7, 3) := by decide +kernel
theorem dL_isTold_45 : decode cL_isTold 45 = .ok (.iconst 1, 1) := by decide +kernel
theorem dL_isTold_46 : decode cL_isTold 46 = .ok (.goto 4, 3) := by decide +kernel
theorem dL_isTold_49 : decode cL_isTold 49 = .ok (.iconst 0, 1) := by decide +kernel
theorem dL_isTold_50 : decode cL_isTold 50 = .ok (.iadd, 1) := by decide +kernel
theorem dL_isTold_51 : decode cL_isTold 51 = .ok (.istore 4, 2) := by decide +kernel
theorem dL_isTold_53 : decode cL_isTold 53 = .ok (.iinc 5 1, 3) := by decide +kernel
theorem dL_isTold_56 : decode cL_isTold 56 = .ok (.goto (-34), 3) := by decide +kernel
theorem dL_isTold_59 : decode cL_isTold 59 = .ok (.aload_n 0, 1) := by decide +kernel
theorem dL_isTold_60 : decode cL_isTold 60 = .ok (.aload_n 0, 1) := by decide +kernel
theorem dL_isTold_61 : decode cL_isTold 61 = .ok (.aload_n 1, 1) := by decide +kernel
theorem dL_isTold_62 : decode cL_isTold 62 = .ok (.invokestatic 119, 3) := by decide +kernel
theorem dL_isTold_65 : decode cL_isTold 65 = .ok (.invokevirtual 240, 3) := by decide +kernel
theorem dL_isTold_68 : decode cL_isTold 68 = .ok (.iload 4, 2) := by decide +kernel
theorem dL_isTold_70 : decode cL_isTold 70 = .ok (.if_icmp .ne 7, 3) := by decide +kernel
theorem dL_isTold_73 : decode cL_isTold 73 = .ok (.iconst 1, 1) := by decide +kernel
theorem dL_isTold_74 : decode cL_isTold 74 = .ok (.goto 4, 3) := by decide +kernel
theorem dL_isTold_77 : decode cL_isTold 77 = .ok (.iconst 0, 1) := by decide +kernel
theorem dL_isTold_78 : decode cL_isTold 78 = .ok (.ireturn, 1) := by decide +kernel
theorem dL_law_0 : decode cL_law 0 = .ok (.new 9, 3) := by decide +kernel
theorem dL_law_3 : decode cL_law 3 = .ok (.dup, 1) := by decide +kernel
theorem dL_law_4 : decode cL_law 4 = .ok (.invokespecial 243, 3) := by decide +kernel
theorem dL_law_7 : decode cL_law 7 = .ok (.astore_n 1, 1) := by decide +kernel
theorem dL_law_8 : decode cL_law 8 = .ok (.bipush 6, 2) := by decide +kernel
theorem dL_law_10 : decode cL_law 10 = .ok (.newarray .int, 2) := by decide +kernel
theorem dL_law_12 : decode cL_law 12 = .ok (.astore_n 2, 1) := by decide +kernel
theorem dL_law_13 : decode cL_law 13 = .ok (.aload_n 1, 1) := by decide +kernel
theorem dL_law_14 : decode cL_law 14 = .ok (.iconst 0, 1) := by decide +kernel
theorem dL_law_15 : decode cL_law 15 = .ok (.iconst 0, 1) := by decide +kernel
theorem dL_law_16 : decode cL_law 16 = .ok (.bipush 60, 2) := by decide +kernel
theorem dL_law_18 : decode cL_law 18 = .ok (.invokevirtual 142, 3) := by decide +kernel
theorem dL_law_21 : decode cL_law 21 = .ok (.ifCond .ne 43, 3) := by decide +kernel
theorem dL_law_24 : decode cL_law 24 = .ok (.aload_n 1, 1) := by decide +kernel
theorem dL_law_25 : decode cL_law 25 = .ok (.bipush 60, 2) := by decide +kernel
theorem dL_law_27 : decode cL_law 27 = .ok (.iconst 1, 1) := by decide +kernel
theorem dL_law_28 : decode cL_law 28 = .ok (.invokevirtual 225, 3) := by decide +kernel
theorem dL_law_31 : decode cL_law 31 = .ok (.sipush 600, 3) := by decide +kernel
theorem dL_law_34 : decode cL_law 34 = .ok (.if_icmp .ne 30, 3) := by decide +kernel
theorem dL_law_37 : decode cL_law 37 = .ok (.aload_n 1, 1) := by decide +kernel
theorem dL_law_38 : decode cL_law 38 = .ok (.bipush 60, 2) := by decide +kernel
theorem dL_law_40 : decode cL_law 40 = .ok (.iconst 0, 1) := by decide +kernel
theorem dL_law_41 : decode cL_law 41 = .ok (.invokevirtual 225, 3) := by decide +kernel
theorem dL_law_44 : decode cL_law 44 = .ok (.ifCond .ne 20, 3) := by decide +kernel
theorem dL_law_47 : decode cL_law 47 = .ok (.aload_n 1, 1) := by decide +kernel
theorem dL_law_48 : decode cL_law 48 = .ok (.invokevirtual 244, 3) := by decide +kernel
theorem dL_law_51 : decode cL_law 51 = .ok (.ifCond .ne 13, 3) := by decide +kernel
theorem dL_law_54 : decode cL_law 54 = .ok (.aload_n 1, 1) := by decide +kernel
theorem dL_law_55 : decode cL_law 55 = .ok (.bipush 60, 2) := by decide +kernel
theorem dL_law_57 : decode cL_law 57 = .ok (.iconst 1, 1) := by decide +kernel
theorem dL_law_58 : decode cL_law 58 = .ok (.invokevirtual 225, 3) := by decide +kernel
theorem dL_law_61 : decode cL_law 61 = .ok (.ifCond .eq 5, 3) := by decide +kernel
theorem dL_law_64 : decode cL_law 64 = .ok (.iconst 0, 1) := by decide +kernel
theorem dL_law_65 : decode cL_law 65 = .ok (.ireturn, 1) := by decide +kernel
theorem dL_law_66 : decode cL_law 66 = .ok (.aload_n 0, 1) := by decide +kernel
theorem dL_law_67 : decode cL_law 67 = .ok (.iconst 0, 1) := by decide +kernel
theorem dL_law_68 : decode cL_law 68 = .ok (.invokestatic 247, 3) := by decide +kernel
theorem dL_law_71 : decode cL_law 71 = .ok (.astore_n 3, 1) := by decide +kernel
theorem dL_law_72 : decode cL_law 72 = .ok (.aload_n 1, 1) := by decide +kernel
theorem dL_law_73 : decode cL_law 73 = .ok (.aload_n 2, 1) := by decide +kernel
theorem dL_law_74 : decode cL_law 74 = .ok (.aload_n 3, 1) := by decide +kernel
theorem dL_law_75 : decode cL_law 75 = .ok (.invokestatic 251, 3) := by decide +kernel
theorem dL_law_78 : decode cL_law 78 = .ok (.aload_n 3, 1) := by decide +kernel
theorem dL_law_79 : decode cL_law 79 = .ok (.getfield 63, 3) := by decide +kernel
theorem dL_law_82 : decode cL_law 82 = .ok (.if_icmp .ne 13, 3) := by decide +kernel
theorem dL_law_85 : decode cL_law 85 = .ok (.aload_n 1, 1) := by decide +kernel
theorem dL_law_86 : decode cL_law 86 = .ok (.sipush 500, 3) := by decide +kernel
theorem dL_law_89 : decode cL_law 89 = .ok (.invokestatic 255, 3) := by decide +kernel
theorem dL_law_92 : decode cL_law 92 = .ok (.ifCond .ne 5, 3) := by decide +kernel
theorem dL_law_95 : decode cL_law 95 = .ok (.iconst 0, 1) := by decide +kernel
theorem dL_law_96 : decode cL_law 96 = .ok (.ireturn, 1) := by decide +kernel
theorem dL_law_97 : decode cL_law 97 = .ok (.aload_n 1, 1) := by decide +kernel
theorem dL_law_98 : decode cL_law 98 = .ok (.invokevirtual 259, 3) := by decide +kernel
theorem dL_law_101 : decode cL_law 101 = .ok (.aload_n 1, 1) := by decide +kernel
theorem dL_law_102 : decode cL_law 102 = .ok (.invokestatic 262, 3) := by decide +kernel
theorem dL_law_105 : decode cL_law 105 = .ok (.lstore 4, 2) := by decide +kernel
theorem dL_law_107 : decode cL_law 107 = .ok (.bipush 10, 2) := by decide +kernel
theorem dL_law_109 : decode cL_law 109 = .ok (.newarray .long, 2) := by decide +kernel
theorem dL_law_111 : decode cL_law 111 = .ok (.astore 6, 2) := by decide +kernel
theorem dL_law_113 : decode cL_law 113 = .ok (.iconst 0, 1) := by decide +kernel
theorem dL_law_114 : decode cL_law 114 = .ok (.istore 7, 2) := by decide +kernel
theorem dL_law_116 : decode cL_law 116 = .ok (.iconst 0, 1) := by decide +kernel
theorem dL_law_117 : decode cL_law 117 = .ok (.istore 8, 2) := by decide +kernel
theorem dL_law_119 : decode cL_law 119 = .ok (.iload 8, 2) := by decide +kernel
theorem dL_law_121 : decode cL_law 121 = .ok (.bipush 34, 2) := by decide +kernel
theorem dL_law_123 : decode cL_law 123 = .ok (.if_icmp .ge 205, 3) := by decide +kernel
theorem dL_law_126 : decode cL_law 126 = .ok (.aload_n 0, 1) := by decide +kernel
theorem dL_law_127 : decode cL_law 127 = .ok (.bipush 14, 2) := by decide +kernel
theorem dL_law_129 : decode cL_law 129 = .ok (.iload 8, 2) := by decide +kernel
theorem dL_law_131 : decode cL_law 131 = .ok (.bipush 20, 2) := by decide +kernel
theorem dL_law_133 : decode cL_law 133 = .ok (.irem, 1) := by decide +kernel
theorem dL_law_134 : decode cL_law 134 = .ok (.iadd, 1) := by decide +kernel
theorem dL_law_135 : decode cL_law 135 = .ok (.invokestatic 23, 3) := by decide +kernel
theorem dL_law_138 : decode cL_law 138 = .ok (.iload 8, 2) := by decide +kernel
theorem dL_law_140 : decode cL_law 140 = .ok (.bipush 20, 2) := by decide +kernel
theorem dL_law_142 : decode cL_law 142 = .ok (.idiv, 1) := by decide +kernel
theorem dL_law_143 : decode cL_law 143 = .ok (.iconst 3, 1) := by decide +kernel
theorem dL_law_144 : decode cL_law 144 = .ok (.imul, 1) := by decide +kernel
theorem dL_law_145 : decode cL_law 145 = .ok (.ishr, 1) := by decide +kernel
theorem dL_law_146 : decode cL_law 146 = .ok (.istore 9, 2) := by decide +kernel
theorem dL_law_148 : decode cL_law 148 = .ok (.aload_n 1, 1) := by decide +kernel
theorem dL_law_149 : decode cL_law 149 = .ok (.invokestatic 262, 3) := by decide +kernel
theorem dL_law_152 : decode cL_law 152 = .ok (.lstore 10, 2) := by decide +kernel
theorem dL_law_154 : decode cL_law 154 = .ok (.aload_n 1, 1) := by decide +kernel
theorem dL_law_155 : decode cL_law 155 = .ok (.aload_n 3, 1) := by decide +kernel
theorem dL_law_156 : decode cL_law 156 = .ok (.iload 9, 2) := by decide +kernel
theorem dL_law_158 : decode cL_law 158 = .ok (.invokestatic 266, 3) := by decide +kernel
theorem dL_law_161 : decode cL_law 161 = .ok (.istore 12, 2) := by decide +kernel
theorem dL_law_163 : decode cL_law 163 = .ok (.iload 12, 2) := by decide +kernel
theorem dL_law_165 : decode cL_law 165 = .ok (.ifCond .lt 18, 3) := by decide +kernel
theorem dL_law_168 : decode cL_law 168 = .ok (.iload 12, 2) := by decide +kernel
theorem dL_law_170 : decode cL_law 170 = .ok (.ifCond .ne 15, 3) := by decide +kernel
theorem dL_law_173 : decode cL_law 173 = .ok (.aload_n 1, 1) := by decide +kernel
theorem dL_law_174 : decode cL_law 174 = .ok (.invokestatic 262, 3) := by decide +kernel
theorem dL_law_177 : decode cL_law 177 = .ok (.lload 10, 2) := by decide +kernel
theorem dL_law_179 : decode cL_law 179 = .ok (.lcmp, 1) := by decide +kernel
theorem dL_law_180 : decode cL_law 180 = .ok (.ifCond .eq 5, 3) := by decide +kernel
theorem dL_law_183 : decode cL_law 183 = .ok (.iconst 0, 1) := by decide +kernel
theorem dL_law_184 : decode cL_law 184 = .ok (.ireturn, 1) := by decide +kernel
theorem dL_law_185 : decode cL_law 185 = .ok (.iload 12, 2) := by decide +kernel
theorem dL_law_187 : decode cL_law 187 = .ok (.ifCond .ne 6, 3) := by decide +kernel
theorem dL_law_190 : decode cL_law 190 = .ok (.goto 132, 3) := by decide +kernel
theorem dL_law_193 : decode cL_law 193 = .ok (.iload 7, 2) := by decide +kernel
theorem dL_law_195 : decode cL_law 195 = .ok (.bipush 10, 2) := by decide +kernel
theorem dL_law_197 : decode cL_law 197 = .ok (.if_icmp .ne 34, 3) := by decide +kernel
theorem dL_law_200 : decode cL_law 200 = .ok (.iconst 1, 1) := by decide +kernel
theorem dL_law_201 : decode cL_law 201 = .ok (.istore 13, 2) := by decide +kernel
theorem dL_law_203 : decode cL_law 203 = .ok (.iload 13, 2) := by decide +kernel
theorem dL_law_205 : decode cL_law 205 = .ok (.bipush 10, 2) := by decide +kernel
theorem dL_law_207 : decode cL_law 207 = .ok (.if_icmp .ge 21, 3) := by decide +kernel
theorem dL_law_210 : decode cL_law 210 = .ok (.aload 6, 2) := by decide +kernel
theorem dL_law_212 : decode cL_law 212 = .ok (.iload 13, 2) := by decide +kernel
theorem dL_law_214 : decode cL_law 214 = .ok (.iconst 1, 1) := by decide +kernel
theorem dL_law_215 : decode cL_law 215 = .ok (.isub, 1) := by decide +kernel
theorem dL_law_216 : decode cL_law 216 = .ok (.aload 6, 2) := by decide +kernel
theorem dL_law_218 : decode cL_law 218 = .ok (.iload 13, 2) := by decide +kernel
theorem dL_law_220 : decode cL_law 220 = .ok (.laload, 1) := by decide +kernel
theorem dL_law_221 : decode cL_law 221 = .ok (.lastore, 1) := by decide +kernel
theorem dL_law_222 : decode cL_law 222 = .ok (.iinc 13 1, 3) := by decide +kernel
theorem dL_law_225 : decode cL_law 225 = .ok (.goto (-22), 3) := by decide +kernel
theorem dL_law_228 : decode cL_law 228 = .ok (.iinc 7 (-1), 3) := by decide +kernel
theorem dL_law_231 : decode cL_law 231 = .ok (.aload 6, 2) := by decide +kernel
theorem dL_law_233 : decode cL_law 233 = .ok (.iload 7, 2) := by decide +kernel
theorem dL_law_235 : decode cL_law 235 = .ok (.iinc 7 1, 3) := by decide +kernel
theorem dL_law_238 : decode cL_law 238 = .ok (.lload 10, 2) := by decide +kernel
theorem dL_law_240 : decode cL_law 240 = .ok (.lastore, 1) := by decide +kernel
theorem dL_law_241 : decode cL_law 241 = .ok (.aload_n 1, 1) := by decide +kernel
theorem dL_law_242 : decode cL_law 242 = .ok (.invokevirtual 270, 3) := by decide +kernel
theorem dL_law_245 : decode cL_law 245 = .ok (.iload 7, 2) := by decide +kernel
theorem dL_law_247 : decode cL_law 247 = .ok (.if_icmp .ne 73, 3) := by decide +kernel
theorem dL_law_250 : decode cL_law 250 = .ok (.iload 8, 2) := by decide +kernel
theorem dL_law_252 : decode cL_law 252 = .ok (.iconst 3, 1) := by decide +kernel
theorem dL_law_253 : decode cL_law 253 = .ok (.irem, 1) := by decide +kernel
theorem dL_law_254 : decode cL_law 254 = .ok (.ifCond .ne 12, 3) := by decide +kernel
theorem dL_law_257 : decode cL_law 257 = .ok (.aload_n 1, 1) := by decide +kernel
theorem dL_law_258 : decode cL_law 258 = .ok (.iload 9, 2) := by decide +kernel
theorem dL_law_260 : decode cL_law 260 = .ok (.invokestatic 255, 3) := by decide +kernel
theorem dL_law_263 : decode cL_law 263 = .ok (.ifCond .eq 57, 3) := by decide +kernel
theorem dL_law_266 : decode cL_law 266 = .ok (.iload 8, 2) := by decide +kernel
theorem dL_law_268 : decode cL_law 268 = .ok (.iconst 4, 1) := by decide +kernel
theorem dL_law_269 : decode cL_law 269 = .ok (.irem, 1) := by decide +kernel
theorem dL_law_270 : decode cL_law 270 = .ok (.iconst 1, 1) := by decide +kernel
theorem dL_law_271 : decode cL_law 271 = .ok (.if_icmp .ne 12, 3) := by decide +kernel
theorem dL_law_274 : decode cL_law 274 = .ok (.aload_n 1, 1) := by decide +kernel
theorem dL_law_275 : decode cL_law 275 = .ok (.iload 9, 2) := by decide +kernel
theorem dL_law_277 : decode cL_law 277 = .ok (.invokestatic 273, 3) := by decide +kernel
theorem dL_law_280 : decode cL_law 280 = .ok (.ifCond .eq 40, 3) := by decide +kernel
theorem dL_law_283 : decode cL_law 283 = .ok (.iload 8, 2) := by decide +kernel
theorem dL_law_285 : decode cL_law 285 = .ok (.iconst 4, 1) := by decide +kernel
theorem dL_law_286 : decode cL_law 286 = .ok (.irem, 1) := by decide +kernel
theorem dL_law_287 : decode cL_law 287 = .ok (.iconst 2, 1) := by decide +kernel
theorem dL_law_288 : decode cL_law 288 = .ok (.if_icmp .ne 12, 3) := by decide +kernel
theorem dL_law_291 : decode cL_law 291 = .ok (.aload_n 1, 1) := by decide +kernel
theorem dL_law_292 : decode cL_law 292 = .ok (.iload 9, 2) := by decide +kernel
theorem dL_law_294 : decode cL_law 294 = .ok (.invokestatic 276, 3) := by decide +kernel
theorem dL_law_297 : decode cL_law 297 = .ok (.ifCond .eq 23, 3) := by decide +kernel
theorem dL_law_300 : decode cL_law 300 = .ok (.iload 8, 2) := by decide +kernel
theorem dL_law_302 : decode cL_law 302 = .ok (.bipush 7, 2) := by decide +kernel
theorem dL_law_304 : decode cL_law 304 = .ok (.irem, 1) := by decide +kernel
theorem dL_law_305 : decode cL_law 305 = .ok (.bipush 6, 2) := by decide +kernel
theorem dL_law_307 : decode cL_law 307 = .ok (.if_icmp .ne 15, 3) := by decide +kernel
theorem dL_law_310 : decode cL_law 310 = .ok (.aload_n 1, 1) := by decide +kernel
theorem dL_law_311 : decode cL_law 311 = .ok (.aload_n 2, 1) := by decide +kernel
theorem dL_law_312 : decode cL_law 312 = .ok (.iload 9, 2) := by decide +kernel
theorem dL_law_314 : decode cL_law 314 = .ok (.invokestatic 279, 3) := by decide +kernel
theorem dL_law_317 : decode cL_law 317 = .ok (.ifCond .ne 5, 3) := by decide +kernel
theorem dL_law_320 : decode cL_law 320 = .ok (.iconst 0, 1) := by decide +kernel
theorem dL_law_321 : decode cL_law 321 = .ok (.ireturn, 1) := by decide +kernel
theorem dL_law_322 : decode cL_law 322 = .ok (.iinc 8 1, 3) := by decide +kernel
theorem dL_law_325 : decode cL_law 325 = .ok (.goto (-206), 3) := by decide +kernel
theorem dL_law_328 : decode cL_law 328 = .ok (.iload 7, 2) := by decide +kernel
theorem dL_law_330 : decode cL_law 330 = .ok (.iconst 1, 1) := by decide +kernel
theorem dL_law_331 : decode cL_law 331 = .ok (.isub, 1) := by decide +kernel
theorem dL_law_332 : decode cL_law 332 = .ok (.istore 8, 2) := by decide +kernel
theorem dL_law_334 : decode cL_law 334 = .ok (.iload 8, 2) := by decide +kernel
theorem dL_law_336 : decode cL_law 336 = .ok (.ifCond .lt 33, 3) := by decide +kernel
theorem dL_law_339 : decode cL_law 339 = .ok (.aload_n 1, 1) := by decide +kernel
theorem dL_law_340 : decode cL_law 340 = .ok (.invokevirtual 244, 3) := by decide +kernel
theorem dL_law_343 : decode cL_law 343 = .ok (.iload 8, 2) := by decide +kernel
theorem dL_law_345 : decode cL_law 345 = .ok (.if_icmp .ne 16, 3) := by decide +kernel
theorem dL_law_348 : decode cL_law 348 = .ok (.aload_n 1, 1) := by decide +kernel
theorem dL_law_349 : decode cL_law 349 = .ok (.invokestatic 262, 3) := by decide +kernel
theorem dL_law_352 : decode cL_law 352 = .ok (.aload 6, 2) := by decide +kernel
theorem dL_law_354 : decode cL_law 354 = .ok (.iload 8, 2) := by decide +kernel
theorem dL_law_356 : decode cL_law 356 = .ok (.laload, 1) := by decide +kernel
theorem dL_law_357 : decode cL_law 357 = .ok (.lcmp, 1) := by decide +kernel
theorem dL_law_358 : decode cL_law 358 = .ok (.ifCond .eq 5, 3) := by decide +kernel
theorem dL_law_361 : decode cL_law 361 = .ok (.iconst 0, 1) := by decide +kernel
theorem dL_law_362 : decode cL_law 362 = .ok (.ireturn, 1) := by decide +kernel
theorem dL_law_363 : decode cL_law 363 = .ok (.iinc 8 (-1), 3) := by decide +kernel
theorem dL_law_366 : decode cL_law 366 = .ok (.goto (-32), 3) := by decide +kernel
theorem dL_law_369 : decode cL_law 369 = .ok (.aload_n 1, 1) := by decide +kernel
theorem dL_law_370 : decode cL_law 370 = .ok (.invokevirtual 244, 3) := by decide +kernel
theorem dL_law_373 : decode cL_law 373 = .ok (.iconst (-1), 1) := by decide +kernel
theorem dL_law_374 : decode cL_law 374 = .ok (.if_icmp .ne 44, 3) := by decide +kernel
theorem dL_law_377 : decode cL_law 377 = .ok (.aload_n 1, 1) := by decide +kernel
theorem dL_law_378 : decode cL_law 378 = .ok (.aload_n 0, 1) := by decide +kernel
theorem dL_law_379 : decode cL_law 379 = .ok (.bipush 35, 2) := by decide +kernel
theorem dL_law_381 : decode cL_law 381 = .ok (.invokestatic 23, 3) := by decide +kernel
theorem dL_law_384 : decode cL_law 384 = .ok (.invokestatic 255, 3) := by decide +kernel
theorem dL_law_387 : decode cL_law 387 = .ok (.ifCond .eq 31, 3) := by decide +kernel
theorem dL_law_390 : decode cL_law 390 = .ok (.aload_n 1, 1) := by decide +kernel
theorem dL_law_391 : decode cL_law 391 = .ok (.invokevirtual 283, 3) := by decide +kernel
theorem dL_law_394 : decode cL_law 394 = .ok (.ifCond .eq 24, 3) := by decide +kernel
theorem dL_law_397 : decode cL_law 397 = .ok (.aload_n 1, 1) := by decide +kernel
theorem dL_law_398 : decode cL_law 398 = .ok (.invokestatic 262, 3) := by decide +kernel
theorem dL_law_401 : decode cL_law 401 = .ok (.lload 4, 2) := by decide +kernel
theorem dL_law_403 : decode cL_law 403 = .ok (.lcmp, 1) := by decide +kernel
theorem dL_law_404 : decode cL_law 404 = .ok (.ifCond .ne 14, 3) := by decide +kernel
theorem dL_law_407 : decode cL_law 407 = .ok (.aload_n 1, 1) := by decide +kernel
theorem dL_law_408 : decode cL_law 408 = .ok (.invokevirtual 270, 3) := by decide +kernel
theorem dL_law_411 : decode cL_law 411 = .ok (.ifCond .ne 7, 3) := by decide +kernel
theorem dL_law_414 : decode cL_law 414 = .ok (.iconst 1, 1) := by decide +kernel
theorem dL_law_415 : decode cL_law 415 = .ok (.goto 4, 3) := by decide +kernel
theorem dL_law_418 : decode cL_law 418 = .ok (.iconst 0, 1) := by decide +kernel
theorem dL_law_419 : decode cL_law 419 = .ok (.ireturn, 1) := by decide +kernel
