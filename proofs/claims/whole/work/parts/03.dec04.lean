theorem dX12_tellPile_0 : decode cX12_tellPile 0 = .ok (.iconst 0, 1) := by decide +kernel
theorem dX12_tellPile_1 : decode cX12_tellPile 1 = .ok (.istore_n 1, 1) := by decide +kernel
theorem dX12_tellPile_2 : decode cX12_tellPile 2 = .ok (.iconst 0, 1) := by decide +kernel
theorem dX12_tellPile_3 : decode cX12_tellPile 3 = .ok (.istore_n 2, 1) := by decide +kernel
theorem dX12_tellPile_4 : decode cX12_tellPile 4 = .ok (.aload_n 0, 1) := by decide +kernel
theorem dX12_tellPile_5 : decode cX12_tellPile 5 = .ok (.getfield 191, 3) := by decide +kernel
theorem dX12_tellPile_8 : decode cX12_tellPile 8 = .ok (.ifCond .ne 220, 3) := by decide +kernel
theorem dX12_tellPile_11 : decode cX12_tellPile 11 = .ok (.aload_n 0, 1) := by decide +kernel
theorem dX12_tellPile_12 : decode cX12_tellPile 12 = .ok (.iconst 1, 1) := by decide +kernel
theorem dX12_tellPile_13 : decode cX12_tellPile 13 = .ok (.invokevirtual 209, 3) := by decide +kernel
theorem dX12_tellPile_16 : decode cX12_tellPile 16 = .ok (.ifCond .eq 212, 3) := by decide +kernel
theorem dX12_tellPile_19 : decode cX12_tellPile 19 = .ok (.aload_n 0, 1) := by decide +kernel
theorem dX12_tellPile_20 : decode cX12_tellPile 20 = .ok (.getfield 194, 3) := by decide +kernel
theorem dX12_tellPile_23 : decode cX12_tellPile 23 = .ok (.istore_n 3, 1) := by decide +kernel
theorem dX12_tellPile_24 : decode cX12_tellPile 24 = .ok (.aload_n 0, 1) := by decide +kernel
theorem dX12_tellPile_25 : decode cX12_tellPile 25 = .ok (.invokevirtual 252, 3) := by decide +kernel
theorem dX12_tellPile_28 : decode cX12_tellPile 28 = .ok (.istore 4, 2) := by decide +kernel
theorem dX12_tellPile_30 : decode cX12_tellPile 30 = .ok (.iload 4, 2) := by decide +kernel
theorem dX12_tellPile_32 : decode cX12_tellPile 32 = .ok (.ifCond .lt 19, 3) := by decide +kernel
theorem dX12_tellPile_35 : decode cX12_tellPile 35 = .ok (.iload_n 2, 1) := by decide +kernel
theorem dX12_tellPile_36 : decode cX12_tellPile 36 = .ok (.iload 4, 2) := by decide +kernel
theorem dX12_tellPile_38 : decode cX12_tellPile 38 = .ok (.ishr, 1) := by decide +kernel
theorem dX12_tellPile_39 : decode cX12_tellPile 39 = .ok (.iconst 1, 1) := by decide +kernel
theorem dX12_tellPile_40 : decode cX12_tellPile 40 = .ok (.iand, 1) := by decide +kernel
theorem dX12_tellPile_41 : decode cX12_tellPile 41 = .ok (.iconst 1, 1) := by decide +kernel
theorem dX12_tellPile_42 : decode cX12_tellPile 42 = .ok (.if_icmp .ne 9, 3) := by decide +kernel
theorem dX12_tellPile_45 : decode cX12_tellPile 45 = .ok (.aload_n 0, 1) := by decide +kernel
theorem dX12_tellPile_46 : decode cX12_tellPile 46 = .ok (.iconst 3, 1) := by decide +kernel
theorem dX12_tellPile_47 : decode cX12_tellPile 47 = .ok (.iload_n 3, 1) := by decide +kernel
theorem dX12_tellPile_48 : decode cX12_tellPile 48 = .ok (.invokevirtual 272, 3) := by decide +kernel
theorem dX12_tellPile_51 : decode cX12_tellPile 51 = .ok (.iload 4, 2) := by decide +kernel
theorem dX12_tellPile_53 : decode cX12_tellPile 53 = .ok (.ifCond .lt 10, 3) := by decide +kernel
theorem dX12_tellPile_56 : decode cX12_tellPile 56 = .ok (.iload_n 2, 1) := by decide +kernel
theorem dX12_tellPile_57 : decode cX12_tellPile 57 = .ok (.iconst 1, 1) := by decide +kernel
theorem dX12_tellPile_58 : decode cX12_tellPile 58 = .ok (.iload 4, 2) := by decide +kernel
theorem dX12_tellPile_60 : decode cX12_tellPile 60 = .ok (.ishl, 1) := by decide +kernel
theorem dX12_tellPile_61 : decode cX12_tellPile 61 = .ok (.ior, 1) := by decide +kernel
theorem dX12_tellPile_62 : decode cX12_tellPile 62 = .ok (.istore_n 2, 1) := by decide +kernel
theorem dX12_tellPile_63 : decode cX12_tellPile 63 = .ok (.aload_n 0, 1) := by decide +kernel
theorem dX12_tellPile_64 : decode cX12_tellPile 64 = .ok (.bipush 24, 2) := by decide +kernel
theorem dX12_tellPile_66 : decode cX12_tellPile 66 = .ok (.invokevirtual 263, 3) := by decide +kernel
theorem dX12_tellPile_69 : decode cX12_tellPile 69 = .ok (.aload_n 0, 1) := by decide +kernel
theorem dX12_tellPile_70 : decode cX12_tellPile 70 = .ok (.getfield 191, 3) := by decide +kernel
theorem dX12_tellPile_73 : decode cX12_tellPile 73 = .ok (.ifCond .ne 16, 3) := by decide +kernel
theorem dX12_tellPile_76 : decode cX12_tellPile 76 = .ok (.aload_n 0, 1) := by decide +kernel
theorem dX12_tellPile_77 : decode cX12_tellPile 77 = .ok (.bipush 9, 2) := by decide +kernel
theorem dX12_tellPile_79 : decode cX12_tellPile 79 = .ok (.invokevirtual 209, 3) := by decide +kernel
theorem dX12_tellPile_82 : decode cX12_tellPile 82 = .ok (.ifCond .eq 7, 3) := by decide +kernel
theorem dX12_tellPile_85 : decode cX12_tellPile 85 = .ok (.iconst 1, 1) := by decide +kernel
theorem dX12_tellPile_86 : decode cX12_tellPile 86 = .ok (.goto 4, 3) := by decide +kernel
theorem dX12_tellPile_89 : decode cX12_tellPile 89 = .ok (.iconst 0, 1) := by decide +kernel
theorem dX12_tellPile_90 : decode cX12_tellPile 90 = .ok (.istore 5, 2) := by decide +kernel
theorem dX12_tellPile_92 : decode cX12_tellPile 92 = .ok (.iload 5, 2) := by decide +kernel
theorem dX12_tellPile_94 : decode cX12_tellPile 94 = .ok (.ifCond .eq 7, 3) := by decide +kernel
theorem dX12_tellPile_97 : decode cX12_tellPile 97 = .ok (.aload_n 0, 1) := by decide +kernel
theorem dX12_tellPile_98 : decode cX12_tellPile 98 = .ok (.invokevirtual 212, 3) := by decide +kernel
theorem dX12_tellPile_101 : decode cX12_tellPile 101 = .ok (.aload_n 0, 1) := by decide +kernel
theorem dX12_tellPile_102 : decode cX12_tellPile 102 = .ok (.iconst 0, 1) := by decide +kernel
theorem dX12_tellPile_103 : decode cX12_tellPile 103 = .ok (.sipush 999, 3) := by decide +kernel
theorem dX12_tellPile_106 : decode cX12_tellPile 106 = .ok (.invokevirtual 259, 3) := by decide +kernel
theorem dX12_tellPile_109 : decode cX12_tellPile 109 = .ok (.istore 6, 2) := by decide +kernel
theorem dX12_tellPile_111 : decode cX12_tellPile 111 = .ok (.aload_n 0, 1) := by decide +kernel
theorem dX12_tellPile_112 : decode cX12_tellPile 112 = .ok (.getfield 191, 3) := by decide +kernel
theorem dX12_tellPile_115 : decode cX12_tellPile 115 = .ok (.ifCond .ne 16, 3) := by decide +kernel
theorem dX12_tellPile_118 : decode cX12_tellPile 118 = .ok (.aload_n 0, 1) := by decide +kernel
theorem dX12_tellPile_119 : decode cX12_tellPile 119 = .ok (.bipush 25, 2) := by decide +kernel
theorem dX12_tellPile_121 : decode cX12_tellPile 121 = .ok (.invokevirtual 209, 3) := by decide +kernel
theorem dX12_tellPile_124 : decode cX12_tellPile 124 = .ok (.ifCond .eq 7, 3) := by decide +kernel
theorem dX12_tellPile_127 : decode cX12_tellPile 127 = .ok (.iconst 1, 1) := by decide +kernel
theorem dX12_tellPile_128 : decode cX12_tellPile 128 = .ok (.goto 4, 3) := by decide +kernel
theorem dX12_tellPile_131 : decode cX12_tellPile 131 = .ok (.iconst 0, 1) := by decide +kernel
theorem dX12_tellPile_132 : decode cX12_tellPile 132 = .ok (.istore 7, 2) := by decide +kernel
theorem dX12_tellPile_134 : decode cX12_tellPile 134 = .ok (.iload 7, 2) := by decide +kernel
theorem dX12_tellPile_136 : decode cX12_tellPile 136 = .ok (.ifCond .eq 7, 3) := by decide +kernel
theorem dX12_tellPile_139 : decode cX12_tellPile 139 = .ok (.aload_n 0, 1) := by decide +kernel
theorem dX12_tellPile_140 : decode cX12_tellPile 140 = .ok (.invokevirtual 212, 3) := by decide +kernel
theorem dX12_tellPile_143 : decode cX12_tellPile 143 = .ok (.iload_n 1, 1) := by decide +kernel
theorem dX12_tellPile_144 : decode cX12_tellPile 144 = .ok (.bipush 6, 2) := by decide +kernel
theorem dX12_tellPile_146 : decode cX12_tellPile 146 = .ok (.if_icmp .ge 76, 3) := by decide +kernel
theorem dX12_tellPile_149 : decode cX12_tellPile 149 = .ok (.aload_n 0, 1) := by decide +kernel
theorem dX12_tellPile_150 : decode cX12_tellPile 150 = .ok (.getfield 67, 3) := by decide +kernel
theorem dX12_tellPile_153 : decode cX12_tellPile 153 = .ok (.bipush 20, 2) := by decide +kernel
theorem dX12_tellPile_155 : decode cX12_tellPile 155 = .ok (.aload_n 0, 1) := by decide +kernel
theorem dX12_tellPile_156 : decode cX12_tellPile 156 = .ok (.getfield 224, 3) := by decide +kernel
theorem dX12_tellPile_159 : decode cX12_tellPile 159 = .ok (.imul, 1) := by decide +kernel
theorem dX12_tellPile_160 : decode cX12_tellPile 160 = .ok (.iload_n 1, 1) := by decide +kernel
theorem dX12_tellPile_161 : decode cX12_tellPile 161 = .ok (.iadd, 1) := by decide +kernel
theorem dX12_tellPile_162 : decode cX12_tellPile 162 = .ok (.iload 4, 2) := by decide +kernel
theorem dX12_tellPile_164 : decode cX12_tellPile 164 = .ok (.iastore, 1) := by decide +kernel
theorem dX12_tellPile_165 : decode cX12_tellPile 165 = .ok (.aload_n 0, 1) := by decide +kernel
theorem dX12_tellPile_166 : decode cX12_tellPile 166 = .ok (.getfield 67, 3) := by decide +kernel
theorem dX12_tellPile_169 : decode cX12_tellPile 169 = .ok (.bipush 20, 2) := by decide +kernel
theorem dX12_tellPile_171 : decode cX12_tellPile 171 = .ok (.aload_n 0, 1) := by decide +kernel
theorem dX12_tellPile_172 : decode cX12_tellPile 172 = .ok (.getfield 224, 3) := by decide +kernel
theorem dX12_tellPile_175 : decode cX12_tellPile 175 = .ok (.imul, 1) := by decide +kernel
theorem dX12_tellPile_176 : decode cX12_tellPile 176 = .ok (.bipush 6, 2) := by decide +kernel
theorem dX12_tellPile_178 : decode cX12_tellPile 178 = .ok (.iadd, 1) := by decide +kernel
theorem dX12_tellPile_179 : decode cX12_tellPile 179 = .ok (.iload_n 1, 1) := by decide +kernel
theorem dX12_tellPile_180 : decode cX12_tellPile 180 = .ok (.iadd, 1) := by decide +kernel
theorem dX12_tellPile_181 : decode cX12_tellPile 181 = .ok (.iload 5, 2) := by decide +kernel
theorem dX12_tellPile_183 : decode cX12_tellPile 183 = .ok (.ifCond .eq 9, 3) := by decide +kernel
theorem dX12_tellPile_186 : decode cX12_tellPile 186 = .ok (.iload 6, 2) := by decide +kernel
theorem dX12_tellPile_188 : decode cX12_tellPile 188 = .ok (.ineg, 1) := by decide +kernel
theorem dX12_tellPile_189 : decode cX12_tellPile 189 = .ok (.goto 5, 3) := by decide +kernel
theorem dX12_tellPile_192 : decode cX12_tellPile 192 = .ok (.iload 6, 2) := by decide +kernel
theorem dX12_tellPile_194 : decode cX12_tellPile 194 = .ok (.iastore, 1) := by decide +kernel
theorem dX12_tellPile_195 : decode cX12_tellPile 195 = .ok (.aload_n 0, 1) := by decide +kernel
theorem dX12_tellPile_196 : decode cX12_tellPile 196 = .ok (.getfield 67, 3) := by decide +kernel
theorem dX12_tellPile_199 : decode cX12_tellPile 199 = .ok (.bipush 20, 2) := by decide +kernel
theorem dX12_tellPile_201 : decode cX12_tellPile 201 = .ok (.aload_n 0, 1) := by decide +kernel
theorem dX12_tellPile_202 : decode cX12_tellPile 202 = .ok (.getfield 224, 3) := by decide +kernel
theorem dX12_tellPile_205 : decode cX12_tellPile 205 = .ok (.imul, 1) := by decide +kernel
theorem dX12_tellPile_206 : decode cX12_tellPile 206 = .ok (.bipush 12, 2) := by decide +kernel
theorem dX12_tellPile_208 : decode cX12_tellPile 208 = .ok (.iadd, 1) := by decide +kernel
theorem dX12_tellPile_209 : decode cX12_tellPile 209 = .ok (.iload_n 1, 1) := by decide +kernel
theorem dX12_tellPile_210 : decode cX12_tellPile 210 = .ok (.iadd, 1) := by decide +kernel
theorem dX12_tellPile_211 : decode cX12_tellPile 211 = .ok (.iload 7, 2) := by decide +kernel
theorem dX12_tellPile_213 : decode cX12_tellPile 213 = .ok (.ifCond .eq 7, 3) := by decide +kernel
theorem dX12_tellPile_216 : decode cX12_tellPile 216 = .ok (.iconst 1, 1) := by decide +kernel
theorem dX12_tellPile_217 : decode cX12_tellPile 217 = .ok (.goto 4, 3) := by decide +kernel
theorem dX12_tellPile_220 : decode cX12_tellPile 220 = .ok (.iconst 0, 1) := by decide +kernel
theorem dX12_tellPile_221 : decode cX12_tellPile 221 = .ok (.iastore, 1) := by decide +kernel
theorem dX12_tellPile_222 : decode cX12_tellPile 222 = .ok (.iinc 1 1, 3) := by decide +kernel
theorem dX12_tellPile_225 : decode cX12_tellPile 225 = .ok (.goto (-221), 3) := by decide +kernel
theorem dX12_tellPile_228 : decode cX12_tellPile 228 = .ok (.aload_n 0, 1) := by decide +kernel
theorem dX12_tellPile_229 : decode cX12_tellPile 229 = .ok (.iconst 4, 1) := by decide +kernel
theorem dX12_tellPile_230 : decode cX12_tellPile 230 = .ok (.invokevirtual 263, 3) := by decide +kernel
theorem dX12_tellPile_233 : decode cX12_tellPile 233 = .ok (.aload_n 0, 1) := by decide +kernel
theorem dX12_tellPile_234 : decode cX12_tellPile 234 = .ok (.getfield 67, 3) := by decide +kernel
theorem dX12_tellPile_237 : decode cX12_tellPile 237 = .ok (.bipush 20, 2) := by decide +kernel
theorem dX12_tellPile_239 : decode cX12_tellPile 239 = .ok (.aload_n 0, 1) := by decide +kernel
theorem dX12_tellPile_240 : decode cX12_tellPile 240 = .ok (.getfield 224, 3) := by decide +kernel
theorem dX12_tellPile_243 : decode cX12_tellPile 243 = .ok (.imul, 1) := by decide +kernel
theorem dX12_tellPile_244 : decode cX12_tellPile 244 = .ok (.bipush 18, 2) := by decide +kernel
theorem dX12_tellPile_246 : decode cX12_tellPile 246 = .ok (.iadd, 1) := by decide +kernel
theorem dX12_tellPile_247 : decode cX12_tellPile 247 = .ok (.iload_n 1, 1) := by decide +kernel
theorem dX12_tellPile_248 : decode cX12_tellPile 248 = .ok (.bipush 6, 2) := by decide +kernel
theorem dX12_tellPile_250 : decode cX12_tellPile 250 = .ok (.if_icmp .ge 7, 3) := by decide +kernel
theorem dX12_tellPile_253 : decode cX12_tellPile 253 = .ok (.iload_n 1, 1) := by decide +kernel
theorem dX12_tellPile_254 : decode cX12_tellPile 254 = .ok (.goto 5, 3) := by decide +kernel
theorem dX12_tellPile_257 : decode cX12_tellPile 257 = .ok (.bipush 6, 2) := by decide +kernel
theorem dX12_tellPile_259 : decode cX12_tellPile 259 = .ok (.iastore, 1) := by decide +kernel
theorem dX12_tellPile_260 : decode cX12_tellPile 260 = .ok (.return_, 1) := by decide +kernel
theorem dX12_tellFly_0 : decode cX12_tellFly 0 = .ok (.bipush 6, 2) := by decide +kernel
theorem dX12_tellFly_2 : decode cX12_tellFly 2 = .ok (.aload_n 0, 1) := by decide +kernel
theorem dX12_tellFly_3 : decode cX12_tellFly 3 = .ok (.getfield 224, 3) := by decide +kernel
theorem dX12_tellFly_6 : decode cX12_tellFly 6 = .ok (.imul, 1) := by decide +kernel
theorem dX12_tellFly_7 : decode cX12_tellFly 7 = .ok (.aload_n 0, 1) := by decide +kernel
theorem dX12_tellFly_8 : decode cX12_tellFly 8 = .ok (.getfield 55, 3) := by decide +kernel
theorem dX12_tellFly_11 : decode cX12_tellFly 11 = .ok (.aload_n 0, 1) := by decide +kernel
theorem dX12_tellFly_12 : decode cX12_tellFly 12 = .ok (.getfield 224, 3) := by decide +kernel
theorem dX12_tellFly_15 : decode cX12_tellFly 15 = .ok (.iaload, 1) := by decide +kernel
theorem dX12_tellFly_16 : decode cX12_tellFly 16 = .ok (.iadd, 1) := by decide +kernel
theorem dX12_tellFly_17 : decode cX12_tellFly 17 = .ok (.istore_n 1, 1) := by decide +kernel
theorem dX12_tellFly_18 : decode cX12_tellFly 18 = .ok (.aload_n 0, 1) := by decide +kernel
theorem dX12_tellFly_19 : decode cX12_tellFly 19 = .ok (.getfield 58, 3) := by decide +kernel
theorem dX12_tellFly_22 : decode cX12_tellFly 22 = .ok (.iload_n 1, 1) := by decide +kernel
theorem dX12_tellFly_23 : decode cX12_tellFly 23 = .ok (.aload_n 0, 1) := by decide +kernel
theorem dX12_tellFly_24 : decode cX12_tellFly 24 = .ok (.iconst 0, 1) := by decide +kernel
theorem dX12_tellFly_25 : decode cX12_tellFly 25 = .ok (.bipush 99, 2) := by decide +kernel
theorem dX12_tellFly_27 : decode cX12_tellFly 27 = .ok (.invokevirtual 259, 3) := by decide +kernel
theorem dX12_tellFly_30 : decode cX12_tellFly 30 = .ok (.iastore, 1) := by decide +kernel
theorem dX12_tellFly_31 : decode cX12_tellFly 31 = .ok (.aload_n 0, 1) := by decide +kernel
theorem dX12_tellFly_32 : decode cX12_tellFly 32 = .ok (.bipush 27, 2) := by decide +kernel
theorem dX12_tellFly_34 : decode cX12_tellFly 34 = .ok (.invokevirtual 263, 3) := by decide +kernel
theorem dX12_tellFly_37 : decode cX12_tellFly 37 = .ok (.aload_n 0, 1) := by decide +kernel
theorem dX12_tellFly_38 : decode cX12_tellFly 38 = .ok (.invokevirtual 252, 3) := by decide +kernel
theorem dX12_tellFly_41 : decode cX12_tellFly 41 = .ok (.istore_n 2, 1) := by decide +kernel
theorem dX12_tellFly_42 : decode cX12_tellFly 42 = .ok (.aload_n 0, 1) := by decide +kernel
theorem dX12_tellFly_43 : decode cX12_tellFly 43 = .ok (.getfield 61, 3) := by decide +kernel
theorem dX12_tellFly_46 : decode cX12_tellFly 46 = .ok (.iload_n 1, 1) := by decide +kernel
theorem dX12_tellFly_47 : decode cX12_tellFly 47 = .ok (.iload_n 2, 1) := by decide +kernel
theorem dX12_tellFly_48 : decode cX12_tellFly 48 = .ok (.iastore, 1) := by decide +kernel
theorem dX12_tellFly_49 : decode cX12_tellFly 49 = .ok (.aload_n 0, 1) := by decide +kernel
theorem dX12_tellFly_50 : decode cX12_tellFly 50 = .ok (.getfield 64, 3) := by decide +kernel
theorem dX12_tellFly_53 : decode cX12_tellFly 53 = .ok (.iload_n 1, 1) := by decide +kernel
theorem dX12_tellFly_54 : decode cX12_tellFly 54 = .ok (.aload_n 0, 1) := by decide +kernel
theorem dX12_tellFly_55 : decode cX12_tellFly 55 = .ok (.iconst 0, 1) := by decide +kernel
theorem dX12_tellFly_56 : decode cX12_tellFly 56 = .ok (.iload_n 2, 1) := by decide +kernel
theorem dX12_tellFly_57 : decode cX12_tellFly 57 = .ok (.ifCond .ge 9, 3) := by decide +kernel
theorem dX12_tellFly_60 : decode cX12_tellFly 60 = .ok (.sipush 9999, 3) := by decide +kernel
theorem dX12_tellFly_63 : decode cX12_tellFly 63 = .ok (.goto 17, 3) := by decide +kernel
theorem dX12_tellFly_66 : decode cX12_tellFly 66 = .ok (.aload_n 0, 1) := by decide +kernel
theorem dX12_tellFly_67 : decode cX12_tellFly 67 = .ok (.getfield 46, 3) := by decide +kernel
theorem dX12_tellFly_70 : decode cX12_tellFly 70 = .ok (.bipush 6, 2) := by decide +kernel
theorem dX12_tellFly_72 : decode cX12_tellFly 72 = .ok (.aload_n 0, 1) := by decide +kernel
theorem dX12_tellFly_73 : decode cX12_tellFly 73 = .ok (.getfield 224, 3) := by decide +kernel
theorem dX12_tellFly_76 : decode cX12_tellFly 76 = .ok (.imul, 1) := by decide +kernel
theorem dX12_tellFly_77 : decode cX12_tellFly 77 = .ok (.iload_n 2, 1) := by decide +kernel
theorem dX12_tellFly_78 : decode cX12_tellFly 78 = .ok (.iadd, 1) := by decide +kernel
theorem dX12_tellFly_79 : decode cX12_tellFly 79 = .ok (.iaload, 1) := by decide +kernel
theorem dX12_tellFly_80 : decode cX12_tellFly 80 = .ok (.invokevirtual 259, 3) := by decide +kernel
theorem dX12_tellFly_83 : decode cX12_tellFly 83 = .ok (.iastore, 1) := by decide +kernel
theorem dX12_tellFly_84 : decode cX12_tellFly 84 = .ok (.aload_n 0, 1) := by decide +kernel
theorem dX12_tellFly_85 : decode cX12_tellFly 85 = .ok (.iconst 4, 1) := by decide +kernel
theorem dX12_tellFly_86 : decode cX12_tellFly 86 = .ok (.invokevirtual 263, 3) := by decide +kernel
theorem dX12_tellFly_89 : decode cX12_tellFly 89 = .ok (.aload_n 0, 1) := by decide +kernel
theorem dX12_tellFly_90 : decode cX12_tellFly 90 = .ok (.getfield 191, 3) := by decide +kernel
theorem dX12_tellFly_93 : decode cX12_tellFly 93 = .ok (.ifCond .ne 16, 3) := by decide +kernel
theorem dX12_tellFly_96 : decode cX12_tellFly 96 = .ok (.aload_n 0, 1) := by decide +kernel
theorem dX12_tellFly_97 : decode cX12_tellFly 97 = .ok (.getfield 55, 3) := by decide +kernel
theorem dX12_tellFly_100 : decode cX12_tellFly 100 = .ok (.aload_n 0, 1) := by decide +kernel
theorem dX12_tellFly_101 : decode cX12_tellFly 101 = .ok (.getfield 224, 3) := by decide +kernel
theorem dX12_tellFly_104 : decode cX12_tellFly 104 = .ok (.dup2, 1) := by decide +kernel
theorem dX12_tellFly_105 : decode cX12_tellFly 105 = .ok (.iaload, 1) := by decide +kernel
theorem dX12_tellFly_106 : decode cX12_tellFly 106 = .ok (.iconst 1, 1) := by decide +kernel
theorem dX12_tellFly_107 : decode cX12_tellFly 107 = .ok (.iadd, 1) := by decide +kernel
theorem dX12_tellFly_108 : decode cX12_tellFly 108 = .ok (.iastore, 1) := by decide +kernel
theorem dX12_tellFly_109 : decode cX12_tellFly 109 = .ok (.return_, 1) := by decide +kernel
theorem dX12_tellLaw_0 : decode cX12_tellLaw 0 = .ok (.aload_n 0, 1) := by decide +kernel
theorem dX12_tellLaw_1 : decode cX12_tellLaw 1 = .ok (.iconst 5, 1) := by decide +kernel
theorem dX12_tellLaw_2 : decode cX12_tellLaw 2 = .ok (.invokevirtual 263, 3) := by decide +kernel
theorem dX12_tellLaw_5 : decode cX12_tellLaw 5 = .ok (.aload_n 0, 1) := by decide +kernel
theorem dX12_tellLaw_6 : decode cX12_tellLaw 6 = .ok (.getfield 230, 3) := by decide +kernel
theorem dX12_tellLaw_9 : decode cX12_tellLaw 9 = .ok (.istore_n 2, 1) := by decide +kernel
theorem dX12_tellLaw_10 : decode cX12_tellLaw 10 = .ok (.iconst 0, 1) := by decide +kernel
theorem dX12_tellLaw_11 : decode cX12_tellLaw 11 = .ok (.istore_n 3, 1) := by decide +kernel
theorem dX12_tellLaw_12 : decode cX12_tellLaw 12 = .ok (.aload_n 0, 1) := by decide +kernel
theorem dX12_tellLaw_13 : decode cX12_tellLaw 13 = .ok (.getfield 191, 3) := by decide +kernel
theorem dX12_tellLaw_16 : decode cX12_tellLaw 16 = .ok (.ifCond .ne 113, 3) := by decide +kernel
theorem dX12_tellLaw_19 : decode cX12_tellLaw 19 = .ok (.aload_n 0, 1) := by decide +kernel
theorem dX12_tellLaw_20 : decode cX12_tellLaw 20 = .ok (.bipush 28, 2) := by decide +kernel
theorem dX12_tellLaw_22 : decode cX12_tellLaw 22 = .ok (.invokevirtual 209, 3) := by decide +kernel
theorem dX12_tellLaw_25 : decode cX12_tellLaw 25 = .ok (.ifCond .eq 104, 3) := by decide +kernel
theorem dX12_tellLaw_28 : decode cX12_tellLaw 28 = .ok (.iload_n 3, 1) := by decide +kernel
theorem dX12_tellLaw_29 : decode cX12_tellLaw 29 = .ok (.iconst 4, 1) := by decide +kernel
theorem dX12_tellLaw_30 : decode cX12_tellLaw 30 = .ok (.if_icmp .ne 8, 3) := by decide +kernel
theorem dX12_tellLaw_33 : decode cX12_tellLaw 33 = .ok (.aload_n 0, 1) := by decide +kernel
theorem dX12_tellLaw_34 : decode cX12_tellLaw 34 = .ok (.iconst 2, 1) := by decide +kernel
theorem dX12_tellLaw_35 : decode cX12_tellLaw 35 = .ok (.invokevirtual 206, 3) := by decide +kernel
theorem dX12_tellLaw_38 : decode cX12_tellLaw 38 = .ok (.aload_n 0, 1) := by decide +kernel
theorem dX12_tellLaw_39 : decode cX12_tellLaw 39 = .ok (.getfield 191, 3) := by decide +kernel
theorem dX12_tellLaw_42 : decode cX12_tellLaw 42 = .ok (.ifCond .le 4, 3) := by decide +kernel
theorem dX12_tellLaw_45 : decode cX12_tellLaw 45 = .ok (.return_, 1) := by decide +kernel
theorem dX12_tellLaw_46 : decode cX12_tellLaw 46 = .ok (.iinc 3 1, 3) := by decide +kernel
theorem dX12_tellLaw_49 : decode cX12_tellLaw 49 = .ok (.aload_n 0, 1) := by decide +kernel
theorem dX12_tellLaw_50 : decode cX12_tellLaw 50 = .ok (.invokevirtual 212, 3) := by decide +kernel
theorem dX12_tellLaw_53 : decode cX12_tellLaw 53 = .ok (.aload_n 0, 1) := by decide +kernel
theorem dX12_tellLaw_54 : decode cX12_tellLaw 54 = .ok (.getfield 76, 3) := by decide +kernel
theorem dX12_tellLaw_57 : decode cX12_tellLaw 57 = .ok (.aload_n 0, 1) := by decide +kernel
theorem dX12_tellLaw_58 : decode cX12_tellLaw 58 = .ok (.getfield 230, 3) := by decide +kernel
theorem dX12_tellLaw_61 : decode cX12_tellLaw 61 = .ok (.iconst 1, 1) := by decide +kernel
theorem dX12_tellLaw_62 : decode cX12_tellLaw 62 = .ok (.bastore, 1) := by decide +kernel
theorem dX12_tellLaw_63 : decode cX12_tellLaw 63 = .ok (.aload_n 0, 1) := by decide +kernel
theorem dX12_tellLaw_64 : decode cX12_tellLaw 64 = .ok (.getfield 80, 3) := by decide +kernel
theorem dX12_tellLaw_67 : decode cX12_tellLaw 67 = .ok (.aload_n 0, 1) := by decide +kernel
theorem dX12_tellLaw_68 : decode cX12_tellLaw 68 = .ok (.getfield 230, 3) := by decide +kernel
theorem dX12_tellLaw_71 : decode cX12_tellLaw 71 = .ok (.aload_n 0, 1) := by decide +kernel
theorem dX12_tellLaw_72 : decode cX12_tellLaw 72 = .ok (.getfield 233, 3) := by decide +kernel
theorem dX12_tellLaw_75 : decode cX12_tellLaw 75 = .ok (.iastore, 1) := by decide +kernel
theorem dX12_tellLaw_76 : decode cX12_tellLaw 76 = .ok (.aload_n 0, 1) := by decide +kernel
theorem dX12_tellLaw_77 : decode cX12_tellLaw 77 = .ok (.invokevirtual 275, 3) := by decide +kernel
theorem dX12_tellLaw_80 : decode cX12_tellLaw 80 = .ok (.aload_n 0, 1) := by decide +kernel
theorem dX12_tellLaw_81 : decode cX12_tellLaw 81 = .ok (.bipush 13, 2) := by decide +kernel
theorem dX12_tellLaw_83 : decode cX12_tellLaw 83 = .ok (.invokevirtual 263, 3) := by decide +kernel
theorem dX12_tellLaw_86 : decode cX12_tellLaw 86 = .ok (.aload_n 0, 1) := by decide +kernel
theorem dX12_tellLaw_87 : decode cX12_tellLaw 87 = .ok (.getfield 83, 3) := by decide +kernel
theorem dX12_tellLaw_90 : decode cX12_tellLaw 90 = .ok (.aload_n 0, 1) := by decide +kernel
theorem dX12_tellLaw_91 : decode cX12_tellLaw 91 = .ok (.getfield 230, 3) := by decide +kernel
theorem dX12_tellLaw_94 : decode cX12_tellLaw 94 = .ok (.aload_n 0, 1) := by decide +kernel
theorem dX12_tellLaw_95 : decode cX12_tellLaw 95 = .ok (.getfield 233, 3) := by decide +kernel
theorem dX12_tellLaw_98 : decode cX12_tellLaw 98 = .ok (.iastore, 1) := by decide +kernel
theorem dX12_tellLaw_99 : decode cX12_tellLaw 99 = .ok (.aload_n 0, 1) := by decide +kernel
theorem dX12_tellLaw_100 : decode cX12_tellLaw 100 = .ok (.getfield 191, 3) := by decide +kernel
theorem dX12_tellLaw_103 : decode cX12_tellLaw 103 = .ok (.ifCond .ne 7, 3) := by decide +kernel
theorem dX12_tellLaw_106 : decode cX12_tellLaw 106 = .ok (.aload_n 0, 1) := by decide +kernel
theorem dX12_tellLaw_107 : decode cX12_tellLaw 107 = .ok (.invokevirtual 275, 3) := by decide +kernel
theorem dX12_tellLaw_110 : decode cX12_tellLaw 110 = .ok (.aload_n 0, 1) := by decide +kernel
theorem dX12_tellLaw_111 : decode cX12_tellLaw 111 = .ok (.bipush 29, 2) := by decide +kernel
theorem dX12_tellLaw_113 : decode cX12_tellLaw 113 = .ok (.invokevirtual 263, 3) := by decide +kernel
theorem dX12_tellLaw_116 : decode cX12_tellLaw 116 = .ok (.aload_n 0, 1) := by decide +kernel
theorem dX12_tellLaw_117 : decode cX12_tellLaw 117 = .ok (.invokevirtual 278, 3) := by decide +kernel
theorem dX12_tellLaw_120 : decode cX12_tellLaw 120 = .ok (.aload_n 0, 1) := by decide +kernel
theorem dX12_tellLaw_121 : decode cX12_tellLaw 121 = .ok (.bipush 30, 2) := by decide +kernel
theorem dX12_tellLaw_123 : decode cX12_tellLaw 123 = .ok (.invokevirtual 263, 3) := by decide +kernel
theorem dX12_tellLaw_126 : decode cX12_tellLaw 126 = .ok (.goto (-114), 3) := by decide +kernel
theorem dX12_tellLaw_129 : decode cX12_tellLaw 129 = .ok (.aload_n 0, 1) := by decide +kernel
theorem dX12_tellLaw_130 : decode cX12_tellLaw 130 = .ok (.getfield 76, 3) := by decide +kernel
theorem dX12_tellLaw_133 : decode cX12_tellLaw 133 = .ok (.aload_n 0, 1) := by decide +kernel
theorem dX12_tellLaw_134 : decode cX12_tellLaw 134 = .ok (.getfield 230, 3) := by decide +kernel
theorem dX12_tellLaw_137 : decode cX12_tellLaw 137 = .ok (.iconst 0, 1) := by decide +kernel
theorem dX12_tellLaw_138 : decode cX12_tellLaw 138 = .ok (.bastore, 1) := by decide +kernel
theorem dX12_tellLaw_139 : decode cX12_tellLaw 139 = .ok (.aload_n 0, 1) := by decide +kernel
theorem dX12_tellLaw_140 : decode cX12_tellLaw 140 = .ok (.invokevirtual 278, 3) := by decide +kernel
theorem dX12_tellLaw_143 : decode cX12_tellLaw 143 = .ok (.aload_n 0, 1) := by decide +kernel
theorem dX12_tellLaw_144 : decode cX12_tellLaw 144 = .ok (.iconst 4, 1) := by decide +kernel
theorem dX12_tellLaw_145 : decode cX12_tellLaw 145 = .ok (.invokevirtual 263, 3) := by decide +kernel
theorem dX12_tellLaw_148 : decode cX12_tellLaw 148 = .ok (.aload_n 0, 1) := by decide +kernel
theorem dX12_tellLaw_149 : decode cX12_tellLaw 149 = .ok (.getfield 191, 3) := by decide +kernel
theorem dX12_tellLaw_152 : decode cX12_tellLaw 152 = .ok (.ifCond .gt 7, 3) := by decide +kernel
theorem dX12_tellLaw_155 : decode cX12_tellLaw 155 = .ok (.iload_n 1, 1) := by decide +kernel
theorem dX12_tellLaw_156 : decode cX12_tellLaw 156 = .ok (.ifCond .ge 4, 3) := by decide +kernel
theorem dX12_tellLaw_159 : decode cX12_tellLaw 159 = .ok (.return_, 1) := by decide +kernel
theorem dX12_tellLaw_160 : decode cX12_tellLaw 160 = .ok (.aload_n 0, 1) := by decide +kernel
theorem dX12_tellLaw_161 : decode cX12_tellLaw 161 = .ok (.getfield 70, 3) := by decide +kernel
theorem dX12_tellLaw_164 : decode cX12_tellLaw 164 = .ok (.bipush 6, 2) := by decide +kernel
theorem dX12_tellLaw_166 : decode cX12_tellLaw 166 = .ok (.aload_n 0, 1) := by decide +kernel
theorem dX12_tellLaw_167 : decode cX12_tellLaw 167 = .ok (.getfield 224, 3) := by decide +kernel
theorem dX12_tellLaw_170 : decode cX12_tellLaw 170 = .ok (.imul, 1) := by decide +kernel
theorem dX12_tellLaw_171 : decode cX12_tellLaw 171 = .ok (.iload_n 1, 1) := by decide +kernel
theorem dX12_tellLaw_172 : decode cX12_tellLaw 172 = .ok (.iadd, 1) := by decide +kernel
theorem dX12_tellLaw_173 : decode cX12_tellLaw 173 = .ok (.iload_n 2, 1) := by decide +kernel
theorem dX12_tellLaw_174 : decode cX12_tellLaw 174 = .ok (.iastore, 1) := by decide +kernel
theorem dX12_tellLaw_175 : decode cX12_tellLaw 175 = .ok (.aload_n 0, 1) := by decide +kernel
theorem dX12_tellLaw_176 : decode cX12_tellLaw 176 = .ok (.getfield 73, 3) := by decide +kernel
theorem dX12_tellLaw_179 : decode cX12_tellLaw 179 = .ok (.bipush 6, 2) := by decide +kernel
theorem dX12_tellLaw_181 : decode cX12_tellLaw 181 = .ok (.aload_n 0, 1) := by decide +kernel
theorem dX12_tellLaw_182 : decode cX12_tellLaw 182 = .ok (.getfield 224, 3) := by decide +kernel
theorem dX12_tellLaw_185 : decode cX12_tellLaw 185 = .ok (.imul, 1) := by decide +kernel
theorem dX12_tellLaw_186 : decode cX12_tellLaw 186 = .ok (.iload_n 1, 1) := by decide +kernel
theorem dX12_tellLaw_187 : decode cX12_tellLaw 187 = .ok (.iadd, 1) := by decide +kernel
theorem dX12_tellLaw_188 : decode cX12_tellLaw 188 = .ok (.aload_n 0, 1) := by decide +kernel
theorem dX12_tellLaw_189 : decode cX12_tellLaw 189 = .ok (.getfield 230, 3) := by decide +kernel
theorem dX12_tellLaw_192 : decode cX12_tellLaw 192 = .ok (.iastore, 1) := by decide +kernel
theorem dX12_tellLaw_193 : decode cX12_tellLaw 193 = .ok (.return_, 1) := by decide +kernel
theorem dX12_term_0 : decode cX12_term 0 = .ok (.aload_n 0, 1) := by decide +kernel
theorem dX12_term_1 : decode cX12_term 1 = .ok (.getfield 86, 3) := by decide +kernel
theorem dX12_term_4 : decode cX12_term 4 = .ok (.aload_n 0, 1) := by decide +kernel
theorem dX12_term_5 : decode cX12_term 5 = .ok (.getfield 230, 3) := by decide +kernel
theorem dX12_term_8 : decode cX12_term 8 = .ok (.aload_n 0, 1) := by decide +kernel
theorem dX12_term_9 : decode cX12_term 9 = .ok (.getfield 233, 3) := by decide +kernel
theorem dX12_term_12 : decode cX12_term 12 = .ok (.iastore, 1) := by decide +kernel
theorem dX12_term_13 : decode cX12_term 13 = .ok (.aload_n 0, 1) := by decide +kernel
theorem dX12_term_14 : decode cX12_term 14 = .ok (.getfield 191, 3) := by decide +kernel
theorem dX12_term_17 : decode cX12_term 17 = .ok (.ifCond .ne 7, 3) := by decide +kernel
theorem dX12_term_20 : decode cX12_term 20 = .ok (.aload_n 0, 1) := by decide +kernel
theorem dX12_term_21 : decode cX12_term 21 = .ok (.invokevirtual 275, 3) := by decide +kernel
theorem dX12_term_24 : decode cX12_term 24 = .ok (.aload_n 0, 1) := by decide +kernel
theorem dX12_term_25 : decode cX12_term 25 = .ok (.getfield 89, 3) := by decide +kernel
theorem dX12_term_28 : decode cX12_term 28 = .ok (.aload_n 0, 1) := by decide +kernel
theorem dX12_term_29 : decode cX12_term 29 = .ok (.getfield 230, 3) := by decide +kernel
theorem dX12_term_32 : decode cX12_term 32 = .ok (.aload_n 0, 1) := by decide +kernel
theorem dX12_term_33 : decode cX12_term 33 = .ok (.getfield 233, 3) := by decide +kernel
theorem dX12_term_36 : decode cX12_term 36 = .ok (.iastore, 1) := by decide +kernel
theorem dX12_term_37 : decode cX12_term 37 = .ok (.aload_n 0, 1) := by decide +kernel
theorem dX12_term_38 : decode cX12_term 38 = .ok (.dup, 1) := by decide +kernel
theorem dX12_term_39 : decode cX12_term 39 = .ok (.getfield 230, 3) := by decide +kernel
theorem dX12_term_42 : decode cX12_term 42 = .ok (.iconst 1, 1) := by decide +kernel
theorem dX12_term_43 : decode cX12_term 43 = .ok (.iadd, 1) := by decide +kernel
theorem dX12_term_44 : decode cX12_term 44 = .ok (.putfield 230, 3) := by decide +kernel
theorem dX12_term_47 : decode cX12_term 47 = .ok (.return_, 1) := by decide +kernel
theorem dX12_emit_0 : decode cX12_emit 0 = .ok (.aload_n 0, 1) := by decide +kernel
theorem dX12_emit_1 : decode cX12_emit 1 = .ok (.getfield 92, 3) := by decide +kernel
theorem dX12_emit_4 : decode cX12_emit 4 = .ok (.aload_n 0, 1) := by decide +kernel
theorem dX12_emit_5 : decode cX12_emit 5 = .ok (.getfield 233, 3) := by decide +kernel
theorem dX12_emit_8 : decode cX12_emit 8 = .ok (.iload_n 1, 1) := by decide +kernel
theorem dX12_emit_9 : decode cX12_emit 9 = .ok (.iastore, 1) := by decide +kernel
theorem dX12_emit_10 : decode cX12_emit 10 = .ok (.aload_n 0, 1) := by decide +kernel
theorem dX12_emit_11 : decode cX12_emit 11 = .ok (.getfield 95, 3) := by decide +kernel
theorem dX12_emit_14 : decode cX12_emit 14 = .ok (.aload_n 0, 1) := by decide +kernel
theorem dX12_emit_15 : decode cX12_emit 15 = .ok (.getfield 233, 3) := by decide +kernel
theorem dX12_emit_18 : decode cX12_emit 18 = .ok (.iload_n 2, 1) := by decide +kernel
theorem dX12_emit_19 : decode cX12_emit 19 = .ok (.iastore, 1) := by decide +kernel
theorem dX12_emit_20 : decode cX12_emit 20 = .ok (.aload_n 0, 1) := by decide +kernel
theorem dX12_emit_21 : decode cX12_emit 21 = .ok (.dup, 1) := by decide +kernel
theorem dX12_emit_22 : decode cX12_emit 22 = .ok (.getfield 233, 3) := by decide +kernel
theorem dX12_emit_25 : decode cX12_emit 25 = .ok (.iconst 1, 1) := by decide +kernel
theorem dX12_emit_26 : decode cX12_emit 26 = .ok (.iadd, 1) := by decide +kernel
theorem dX12_emit_27 : decode cX12_emit 27 = .ok (.putfield 233, 3) := by decide +kernel
theorem dX12_emit_30 : decode cX12_emit 30 = .ok (.return_, 1) := by decide +kernel
theorem dX12_comesOut_0 : decode cX12_comesOut 0 = .ok (.aload_n 0, 1) := by decide +kernel
theorem dX12_comesOut_1 : decode cX12_comesOut 1 = .ok (.getfield 281, 3) := by decide +kernel
theorem dX12_comesOut_4 : decode cX12_comesOut 4 = .ok (.ifCond .le 87, 3) := by decide +kernel
theorem dX12_comesOut_7 : decode cX12_comesOut 7 = .ok (.aload_n 0, 1) := by decide +kernel
theorem dX12_comesOut_8 : decode cX12_comesOut 8 = .ok (.getfield 98, 3) := by decide +kernel
theorem dX12_comesOut_11 : decode cX12_comesOut 11 = .ok (.aload_n 0, 1) := by decide +kernel
theorem dX12_comesOut_12 : decode cX12_comesOut 12 = .ok (.getfield 281, 3) := by decide +kernel
theorem dX12_comesOut_15 : decode cX12_comesOut 15 = .ok (.iconst 1, 1) := by decide +kernel
theorem dX12_comesOut_16 : decode cX12_comesOut 16 = .ok (.isub, 1) := by decide +kernel
theorem dX12_comesOut_17 : decode cX12_comesOut 17 = .ok (.iaload, 1) := by decide +kernel
theorem dX12_comesOut_18 : decode cX12_comesOut 18 = .ok (.istore_n 2, 1) := by decide +kernel
theorem dX12_comesOut_19 : decode cX12_comesOut 19 = .ok (.iload_n 2, 1) := by decide +kernel
theorem dX12_comesOut_20 : decode cX12_comesOut 20 = .ok (.bipush 6, 2) := by decide +kernel
theorem dX12_comesOut_22 : decode cX12_comesOut 22 = .ok (.if_icmp .eq 19, 3) := by decide +kernel
theorem dX12_comesOut_25 : decode cX12_comesOut 25 = .ok (.iload_n 1, 1) := by decide +kernel
theorem dX12_comesOut_26 : decode cX12_comesOut 26 = .ok (.ifCond .eq 16, 3) := by decide +kernel
theorem dX12_comesOut_29 : decode cX12_comesOut 29 = .ok (.iload_n 2, 1) := by decide +kernel
theorem dX12_comesOut_30 : decode cX12_comesOut 30 = .ok (.bipush 8, 2) := by decide +kernel
theorem dX12_comesOut_32 : decode cX12_comesOut 32 = .ok (.if_icmp .eq 9, 3) := by decide +kernel
theorem dX12_comesOut_35 : decode cX12_comesOut 35 = .ok (.iload_n 2, 1) := by decide +kernel
theorem dX12_comesOut_36 : decode cX12_comesOut 36 = .ok (.bipush 9, 2) := by decide +kernel
theorem dX12_comesOut_38 : decode cX12_comesOut 38 = .ok (.if_icmp .ne 4, 3) := by decide +kernel
theorem dX12_comesOut_41 : decode cX12_comesOut 41 = .ok (.return_, 1) := by decide +kernel
theorem dX12_comesOut_42 : decode cX12_comesOut 42 = .ok (.aload_n 0, 1) := by decide +kernel
theorem dX12_comesOut_43 : decode cX12_comesOut 43 = .ok (.dup, 1) := by decide +kernel
theorem dX12_comesOut_44 : decode cX12_comesOut 44 = .ok (.getfield 281, 3) := by decide +kernel
theorem dX12_comesOut_47 : decode cX12_comesOut 47 = .ok (.iconst 1, 1) := by decide +kernel
theorem dX12_comesOut_48 : decode cX12_comesOut 48 = .ok (.isub, 1) := by decide +kernel
theorem dX12_comesOut_49 : decode cX12_comesOut 49 = .ok (.putfield 281, 3) := by decide +kernel
theorem dX12_comesOut_52 : decode cX12_comesOut 52 = .ok (.aload_n 0, 1) := by decide +kernel
theorem dX12_comesOut_53 : decode cX12_comesOut 53 = .ok (.iload_n 2, 1) := by decide +kernel
theorem dX12_comesOut_54 : decode cX12_comesOut 54 = .ok (.bipush 8, 2) := by decide +kernel
theorem dX12_comesOut_56 : decode cX12_comesOut 56 = .ok (.if_icmp .ne 7, 3) := by decide +kernel
theorem dX12_comesOut_59 : decode cX12_comesOut 59 = .ok (.iconst 2, 1) := by decide +kernel
theorem dX12_comesOut_60 : decode cX12_comesOut 60 = .ok (.goto 24, 3) := by decide +kernel
theorem dX12_comesOut_63 : decode cX12_comesOut 63 = .ok (.iload_n 2, 1) := by decide +kernel
theorem dX12_comesOut_64 : decode cX12_comesOut 64 = .ok (.bipush 9, 2) := by decide +kernel
theorem dX12_comesOut_66 : decode cX12_comesOut 66 = .ok (.if_icmp .ne 7, 3) := by decide +kernel
theorem dX12_comesOut_69 : decode cX12_comesOut 69 = .ok (.iconst 3, 1) := by decide +kernel
theorem dX12_comesOut_70 : decode cX12_comesOut 70 = .ok (.goto 14, 3) := by decide +kernel
theorem dX12_comesOut_73 : decode cX12_comesOut 73 = .ok (.iload_n 2, 1) := by decide +kernel
theorem dX12_comesOut_74 : decode cX12_comesOut 74 = .ok (.bipush 10, 2) := by decide +kernel
theorem dX12_comesOut_76 : decode cX12_comesOut 76 = .ok (.if_icmp .ne 7, 3) := by decide +kernel
theorem dX12_comesOut_79 : decode cX12_comesOut 79 = .ok (.iconst 4, 1) := by decide +kernel
theorem dX12_comesOut_80 : decode cX12_comesOut 80 = .ok (.goto 4, 3) := by decide +kernel
theorem dX12_comesOut_83 : decode cX12_comesOut 83 = .ok (.iconst 5, 1) := by decide +kernel
theorem dX12_comesOut_84 : decode cX12_comesOut 84 = .ok (.iconst 0, 1) := by decide +kernel
theorem dX12_comesOut_85 : decode cX12_comesOut 85 = .ok (.invokevirtual 284, 3) := by decide +kernel
theorem dX12_comesOut_88 : decode cX12_comesOut 88 = .ok (.goto (-88), 3) := by decide +kernel
theorem dX12_comesOut_91 : decode cX12_comesOut 91 = .ok (.return_, 1) := by decide +kernel
theorem dX12_expression_0 : decode cX12_expression 0 = .ok (.aload_n 0, 1) := by decide +kernel
theorem dX12_expression_1 : decode cX12_expression 1 = .ok (.iconst 0, 1) := by decide +kernel
theorem dX12_expression_2 : decode cX12_expression 2 = .ok (.putfield 281, 3) := by decide +kernel
theorem dX12_expression_5 : decode cX12_expression 5 = .ok (.aload_n 0, 1) := by decide +kernel
theorem dX12_expression_6 : decode cX12_expression 6 = .ok (.getfield 218, 3) := by decide +kernel
theorem dX12_expression_9 : decode cX12_expression 9 = .ok (.istore_n 1, 1) := by decide +kernel
theorem dX12_expression_10 : decode cX12_expression 10 = .ok (.iconst 1, 1) := by decide +kernel
theorem dX12_expression_11 : decode cX12_expression 11 = .ok (.istore_n 2, 1) := by decide +kernel
theorem dX12_expression_12 : decode cX12_expression 12 = .ok (.iload_n 2, 1) := by decide +kernel
theorem dX12_expression_13 : decode cX12_expression 13 = .ok (.ifCond .eq 259, 3) := by decide +kernel
theorem dX12_expression_16 : decode cX12_expression 16 = .ok (.aload_n 0, 1) := by decide +kernel
theorem dX12_expression_17 : decode cX12_expression 17 = .ok (.getfield 191, 3) := by decide +kernel
theorem dX12_expression_20 : decode cX12_expression 20 = .ok (.ifCond .ne 252, 3) := by decide +kernel
theorem dX12_expression_23 : decode cX12_expression 23 = .ok (.aload_n 0, 1) := by decide +kernel
theorem dX12_expression_24 : decode cX12_expression 24 = .ok (.bipush 6, 2) := by decide +kernel
theorem dX12_expression_26 : decode cX12_expression 26 = .ok (.invokevirtual 209, 3) := by decide +kernel
theorem dX12_expression_29 : decode cX12_expression 29 = .ok (.ifCond .eq 55, 3) := by decide +kernel
theorem dX12_expression_32 : decode cX12_expression 32 = .ok (.aload_n 0, 1) := by decide +kernel
theorem dX12_expression_33 : decode cX12_expression 33 = .ok (.getfield 218, 3) := by decide +kernel
theorem dX12_expression_36 : decode cX12_expression 36 = .ok (.bipush 6, 2) := by decide +kernel
theorem dX12_expression_38 : decode cX12_expression 38 = .ok (.if_icmp .ne 8, 3) := by decide +kernel
theorem dX12_expression_41 : decode cX12_expression 41 = .ok (.aload_n 0, 1) := by decide +kernel
theorem dX12_expression_42 : decode cX12_expression 42 = .ok (.iconst 2, 1) := by decide +kernel
theorem dX12_expression_43 : decode cX12_expression 43 = .ok (.invokevirtual 206, 3) := by decide +kernel
theorem dX12_expression_46 : decode cX12_expression 46 = .ok (.aload_n 0, 1) := by decide +kernel
theorem dX12_expression_47 : decode cX12_expression 47 = .ok (.dup, 1) := by decide +kernel
theorem dX12_expression_48 : decode cX12_expression 48 = .ok (.getfield 218, 3) := by decide +kernel
theorem dX12_expression_51 : decode cX12_expression 51 = .ok (.iconst 1, 1) := by decide +kernel
theorem dX12_expression_52 : decode cX12_expression 52 = .ok (.iadd, 1) := by decide +kernel
theorem dX12_expression_53 : decode cX12_expression 53 = .ok (.putfield 218, 3) := by decide +kernel
theorem dX12_expression_56 : decode cX12_expression 56 = .ok (.aload_n 0, 1) := by decide +kernel
theorem dX12_expression_57 : decode cX12_expression 57 = .ok (.invokevirtual 212, 3) := by decide +kernel
theorem dX12_expression_60 : decode cX12_expression 60 = .ok (.aload_n 0, 1) := by decide +kernel
theorem dX12_expression_61 : decode cX12_expression 61 = .ok (.getfield 98, 3) := by decide +kernel
theorem dX12_expression_64 : decode cX12_expression 64 = .ok (.aload_n 0, 1) := by decide +kernel
theorem dX12_expression_65 : decode cX12_expression 65 = .ok (.getfield 281, 3) := by decide +kernel
theorem dX12_expression_68 : decode cX12_expression 68 = .ok (.bipush 6, 2) := by decide +kernel
theorem dX12_expression_70 : decode cX12_expression 70 = .ok (.iastore, 1) := by decide +kernel
theorem dX12_expression_71 : decode cX12_expression 71 = .ok (.aload_n 0, 1) := by decide +kernel
theorem dX12_expression_72 : decode cX12_expression 72 = .ok (.dup, 1) := by decide +kernel
theorem dX12_expression_73 : decode cX12_expression 73 = .ok (.getfield 281, 3) := by decide +kernel
theorem dX12_expression_76 : decode cX12_expression 76 = .ok (.iconst 1, 1) := by decide +kernel
theorem dX12_expression_77 : decode cX12_expression 77 = .ok (.iadd, 1) := by decide +kernel
theorem dX12_expression_78 : decode cX12_expression 78 = .ok (.putfield 281, 3) := by decide +kernel
theorem dX12_expression_81 : decode cX12_expression 81 = .ok (.goto (-58), 3) := by decide +kernel
theorem dX12_expression_84 : decode cX12_expression 84 = .ok (.aload_n 0, 1) := by decide +kernel
theorem dX12_expression_85 : decode cX12_expression 85 = .ok (.invokevirtual 287, 3) := by decide +kernel
theorem dX12_expression_88 : decode cX12_expression 88 = .ok (.aload_n 0, 1) := by decide +kernel
theorem dX12_expression_89 : decode cX12_expression 89 = .ok (.getfield 191, 3) := by decide +kernel
theorem dX12_expression_92 : decode cX12_expression 92 = .ok (.ifCond .le 4, 3) := by decide +kernel
theorem dX12_expression_95 : decode cX12_expression 95 = .ok (.return_, 1) := by decide +kernel
theorem dX12_expression_96 : decode cX12_expression 96 = .ok (.aload_n 0, 1) := by decide +kernel
theorem dX12_expression_97 : decode cX12_expression 97 = .ok (.bipush 7, 2) := by decide +kernel
theorem dX12_expression_99 : decode cX12_expression 99 = .ok (.invokevirtual 209, 3) := by decide +kernel
theorem dX12_expression_102 : decode cX12_expression 102 = .ok (.ifCond .eq 43, 3) := by decide +kernel
theorem dX12_expression_105 : decode cX12_expression 105 = .ok (.aload_n 0, 1) := by decide +kernel
theorem dX12_expression_106 : decode cX12_expression 106 = .ok (.getfield 218, 3) := by decide +kernel
theorem dX12_expression_109 : decode cX12_expression 109 = .ok (.iload_n 1, 1) := by decide +kernel
theorem dX12_expression_110 : decode cX12_expression 110 = .ok (.if_icmp .le 35, 3) := by decide +kernel
theorem dX12_expression_113 : decode cX12_expression 113 = .ok (.aload_n 0, 1) := by decide +kernel
theorem dX12_expression_114 : decode cX12_expression 114 = .ok (.iconst 0, 1) := by decide +kernel
theorem dX12_expression_115 : decode cX12_expression 115 = .ok (.invokevirtual 290, 3) := by decide +kernel
theorem dX12_expression_118 : decode cX12_expression 118 = .ok (.aload_n 0, 1) := by decide +kernel
theorem dX12_expression_119 : decode cX12_expression 119 = .ok (.dup, 1) := by decide +kernel
theorem dX12_expression_120 : decode cX12_expression 120 = .ok (.getfield 281, 3) := by decide +kernel
theorem dX12_expression_123 : decode cX12_expression 123 = .ok (.iconst 1, 1) := by decide +kernel
theorem dX12_expression_124 : decode cX12_expression 124 = .ok (.isub, 1) := by decide +kernel
theorem dX12_expression_125 : decode cX12_expression 125 = .ok (.putfield 281, 3) := by decide +kernel
theorem dX12_expression_128 : decode cX12_expression 128 = .ok (.aload_n 0, 1) := by decide +kernel
theorem dX12_expression_129 : decode cX12_expression 129 = .ok (.dup, 1) := by decide +kernel
theorem dX12_expression_130 : decode cX12_expression 130 = .ok (.getfield 218, 3) := by decide +kernel
theorem dX12_expression_133 : decode cX12_expression 133 = .ok (.iconst 1, 1) := by decide +kernel
theorem dX12_expression_134 : decode cX12_expression 134 = .ok (.isub, 1) := by decide +kernel
theorem dX12_expression_135 : decode cX12_expression 135 = .ok (.putfield 218, 3) := by decide +kernel
theorem dX12_expression_138 : decode cX12_expression 138 = .ok (.aload_n 0, 1) := by decide +kernel
theorem dX12_expression_139 : decode cX12_expression 139 = .ok (.invokevirtual 212, 3) := by decide +kernel
theorem dX12_expression_142 : decode cX12_expression 142 = .ok (.goto (-46), 3) := by decide +kernel
theorem dX12_expression_145 : decode cX12_expression 145 = .ok (.aload_n 0, 1) := by decide +kernel
theorem dX12_expression_146 : decode cX12_expression 146 = .ok (.bipush 8, 2) := by decide +kernel
theorem dX12_expression_148 : decode cX12_expression 148 = .ok (.invokevirtual 209, 3) := by decide +kernel
theorem dX12_expression_151 : decode cX12_expression 151 = .ok (.ifCond .ne 30, 3) := by decide +kernel
theorem dX12_expression_154 : decode cX12_expression 154 = .ok (.aload_n 0, 1) := by decide +kernel
theorem dX12_expression_155 : decode cX12_expression 155 = .ok (.bipush 9, 2) := by decide +kernel
theorem dX12_expression_157 : decode cX12_expression 157 = .ok (.invokevirtual 209, 3) := by decide +kernel
theorem dX12_expression_160 : decode cX12_expression 160 = .ok (.ifCond .ne 21, 3) := by decide +kernel
theorem dX12_expression_163 : decode cX12_expression 163 = .ok (.aload_n 0, 1) := by decide +kernel
theorem dX12_expression_164 : decode cX12_expression 164 = .ok (.bipush 10, 2) := by decide +kernel
theorem dX12_expression_166 : decode cX12_expression 166 = .ok (.invokevirtual 209, 3) := by decide +kernel
theorem dX12_expression_169 : decode cX12_expression 169 = .ok (.ifCond .ne 12, 3) := by decide +kernel
theorem dX12_expression_172 : decode cX12_expression 172 = .ok (.aload_n 0, 1) := by decide +kernel
theorem dX12_expression_173 : decode cX12_expression 173 = .ok (.bipush 15, 2) := by decide +kernel
theorem dX12_expression_175 : decode cX12_expression 175 = .ok (.invokevirtual 209, 3) := by decide +kernel
theorem dX12_expression_178 : decode cX12_expression 178 = .ok (.ifCond .eq 7, 3) := by decide +kernel
theorem dX12_expression_181 : decode cX12_expression 181 = .ok (.iconst 1, 1) := by decide +kernel
theorem dX12_expression_182 : decode cX12_expression 182 = .ok (.goto 4, 3) := by decide +kernel
theorem dX12_expression_185 : decode cX12_expression 185 = .ok (.iconst 0, 1) := by decide +kernel
theorem dX12_expression_186 : decode cX12_expression 186 = .ok (.istore_n 2, 1) := by decide +kernel
theorem dX12_expression_187 : decode cX12_expression 187 = .ok (.iload_n 2, 1) := by decide +kernel
theorem dX12_expression_188 : decode cX12_expression 188 = .ok (.ifCond .ne 22, 3) := by decide +kernel
theorem dX12_expression_191 : decode cX12_expression 191 = .ok (.aload_n 0, 1) := by decide +kernel
theorem dX12_expression_192 : decode cX12_expression 192 = .ok (.getfield 218, 3) := by decide +kernel
theorem dX12_expression_195 : decode cX12_expression 195 = .ok (.iload_n 1, 1) := by decide +kernel
theorem dX12_expression_196 : decode cX12_expression 196 = .ok (.if_icmp .le 8, 3) := by decide +kernel
theorem dX12_expression_199 : decode cX12_expression 199 = .ok (.aload_n 0, 1) := by decide +kernel
theorem dX12_expression_200 : decode cX12_expression 200 = .ok (.iconst 1, 1) := by decide +kernel
theorem dX12_expression_201 : decode cX12_expression 201 = .ok (.invokevirtual 206, 3) := by decide +kernel
theorem dX12_expression_204 : decode cX12_expression 204 = .ok (.aload_n 0, 1) := by decide +kernel
theorem dX12_expression_205 : decode cX12_expression 205 = .ok (.iconst 0, 1) := by decide +kernel
theorem dX12_expression_206 : decode cX12_expression 206 = .ok (.invokevirtual 290, 3) := by decide +kernel
theorem dX12_expression_209 : decode cX12_expression 209 = .ok (.return_, 1) := by decide +kernel
theorem dX12_expression_210 : decode cX12_expression 210 = .ok (.aload_n 0, 1) := by decide +kernel
theorem dX12_expression_211 : decode cX12_expression 211 = .ok (.aload_n 0, 1) := by decide +kernel
theorem dX12_expression_212 : decode cX12_expression 212 = .ok (.bipush 10, 2) := by decide +kernel
theorem dX12_expression_214 : decode cX12_expression 214 = .ok (.invokevirtual 209, 3) := by decide +kernel
theorem dX12_expression_217 : decode cX12_expression 217 = .ok (.ifCond .ne 12, 3) := by decide +kernel
theorem dX12_expression_220 : decode cX12_expression 220 = .ok (.aload_n 0, 1) := by decide +kernel
theorem dX12_expression_221 : decode cX12_expression 221 = .ok (.bipush 15, 2) := by decide +kernel
theorem dX12_expression_223 : decode cX12_expression 223 = .ok (.invokevirtual 209, 3) := by decide +kernel
theorem dX12_expression_226 : decode cX12_expression 226 = .ok (.ifCond .eq 7, 3) := by decide +kernel
theorem dX12_expression_229 : decode cX12_expression 229 = .ok (.iconst 1, 1) := by decide +kernel
theorem dX12_expression_230 : decode cX12_expression 230 = .ok (.goto 4, 3) := by decide +kernel
theorem dX12_expression_233 : decode cX12_expression 233 = .ok (.iconst 0, 1) := by decide +kernel
theorem dX12_expression_234 : decode cX12_expression 234 = .ok (.invokevirtual 290, 3) := by decide +kernel
theorem dX12_expression_237 : decode cX12_expression 237 = .ok (.aload_n 0, 1) := by decide +kernel
theorem dX12_expression_238 : decode cX12_expression 238 = .ok (.getfield 98, 3) := by decide +kernel
theorem dX12_expression_241 : decode cX12_expression 241 = .ok (.aload_n 0, 1) := by decide +kernel
theorem dX12_expression_242 : decode cX12_expression 242 = .ok (.getfield 281, 3) := by decide +kernel
theorem dX12_expression_245 : decode cX12_expression 245 = .ok (.aload_n 0, 1) := by decide +kernel
theorem dX12_expression_246 : decode cX12_expression 246 = .ok (.getfield 20, 3) := by decide +kernel
theorem dX12_expression_249 : decode cX12_expression 249 = .ok (.aload_n 0, 1) := by decide +kernel
theorem dX12_expression_250 : decode cX12_expression 250 = .ok (.getfield 194, 3) := by decide +kernel
theorem dX12_expression_253 : decode cX12_expression 253 = .ok (.iaload, 1) := by decide +kernel
theorem dX12_expression_254 : decode cX12_expression 254 = .ok (.iastore, 1) := by decide +kernel
theorem dX12_expression_255 : decode cX12_expression 255 = .ok (.aload_n 0, 1) := by decide +kernel
theorem dX12_expression_256 : decode cX12_expression 256 = .ok (.dup, 1) := by decide +kernel
theorem dX12_expression_257 : decode cX12_expression 257 = .ok (.getfield 281, 3) := by decide +kernel
theorem dX12_expression_260 : decode cX12_expression 260 = .ok (.iconst 1, 1) := by decide +kernel
theorem dX12_expression_261 : decode cX12_expression 261 = .ok (.iadd, 1) := by decide +kernel
theorem dX12_expression_262 : decode cX12_expression 262 = .ok (.putfield 281, 3) := by decide +kernel
theorem dX12_expression_265 : decode cX12_expression 265 = .ok (.aload_n 0, 1) := by decide +kernel
theorem dX12_expression_266 : decode cX12_expression 266 = .ok (.invokevirtual 212, 3) := by decide +kernel
theorem dX12_expression_269 : decode cX12_expression 269 = .ok (.goto (-257), 3) := by decide +kernel
theorem dX12_expression_272 : decode cX12_expression 272 = .ok (.return_, 1) := by decide +kernel
theorem dX12_unit_0 : decode cX12_unit 0 = .ok (.aload_n 0, 1) := by decide +kernel
theorem dX12_unit_1 : decode cX12_unit 1 = .ok (.iconst 2, 1) := by decide +kernel
theorem dX12_unit_2 : decode cX12_unit 2 = .ok (.invokevirtual 209, 3) := by decide +kernel
theorem dX12_unit_5 : decode cX12_unit 5 = .ok (.ifCond .eq 24, 3) := by decide +kernel
theorem dX12_unit_8 : decode cX12_unit 8 = .ok (.aload_n 0, 1) := by decide +kernel
theorem dX12_unit_9 : decode cX12_unit 9 = .ok (.iconst 0, 1) := by decide +kernel
theorem dX12_unit_10 : decode cX12_unit 10 = .ok (.aload_n 0, 1) := by decide +kernel
theorem dX12_unit_11 : decode cX12_unit 11 = .ok (.getfield 27, 3) := by decide +kernel
theorem dX12_unit_14 : decode cX12_unit 14 = .ok (.aload_n 0, 1) := by decide +kernel
theorem dX12_unit_15 : decode cX12_unit 15 = .ok (.getfield 194, 3) := by decide +kernel
theorem dX12_unit_18 : decode cX12_unit 18 = .ok (.iaload, 1) := by decide +kernel
theorem dX12_unit_19 : decode cX12_unit 19 = .ok (.invokevirtual 284, 3) := by decide +kernel
theorem dX12_unit_22 : decode cX12_unit 22 = .ok (.aload_n 0, 1) := by decide +kernel
theorem dX12_unit_23 : decode cX12_unit 23 = .ok (.invokevirtual 212, 3) := by decide +kernel
theorem dX12_unit_26 : decode cX12_unit 26 = .ok (.goto 67, 3) := by decide +kernel
theorem dX12_unit_29 : decode cX12_unit 29 = .ok (.aload_n 0, 1) := by decide +kernel
theorem dX12_unit_30 : decode cX12_unit 30 = .ok (.getfield 191, 3) := by decide +kernel
theorem dX12_unit_33 : decode cX12_unit 33 = .ok (.ifCond .ne 55, 3) := by decide +kernel
theorem dX12_unit_36 : decode cX12_unit 36 = .ok (.aload_n 0, 1) := by decide +kernel
theorem dX12_unit_37 : decode cX12_unit 37 = .ok (.getfield 20, 3) := by decide +kernel
theorem dX12_unit_40 : decode cX12_unit 40 = .ok (.aload_n 0, 1) := by decide +kernel
theorem dX12_unit_41 : decode cX12_unit 41 = .ok (.getfield 194, 3) := by decide +kernel
theorem dX12_unit_44 : decode cX12_unit 44 = .ok (.iaload, 1) := by decide +kernel
theorem dX12_unit_45 : decode cX12_unit 45 = .ok (.bipush 31, 2) := by decide +kernel
theorem dX12_unit_47 : decode cX12_unit 47 = .ok (.if_icmp .lt 41, 3) := by decide +kernel
theorem dX12_unit_50 : decode cX12_unit 50 = .ok (.aload_n 0, 1) := by decide +kernel
theorem dX12_unit_51 : decode cX12_unit 51 = .ok (.getfield 20, 3) := by decide +kernel
theorem dX12_unit_54 : decode cX12_unit 54 = .ok (.aload_n 0, 1) := by decide +kernel
theorem dX12_unit_55 : decode cX12_unit 55 = .ok (.getfield 194, 3) := by decide +kernel
theorem dX12_unit_58 : decode cX12_unit 58 = .ok (.iaload, 1) := by decide +kernel
theorem dX12_unit_59 : decode cX12_unit 59 = .ok (.bipush 35, 2) := by decide +kernel
theorem dX12_unit_61 : decode cX12_unit 61 = .ok (.if_icmp .gt 27, 3) := by decide +kernel
theorem dX12_unit_64 : decode cX12_unit 64 = .ok (.aload_n 0, 1) := by decide +kernel
theorem dX12_unit_65 : decode cX12_unit 65 = .ok (.iconst 1, 1) := by decide +kernel
theorem dX12_unit_66 : decode cX12_unit 66 = .ok (.aload_n 0, 1) := by decide +kernel
theorem dX12_unit_67 : decode cX12_unit 67 = .ok (.getfield 20, 3) := by decide +kernel
theorem dX12_unit_70 : decode cX12_unit 70 = .ok (.aload_n 0, 1) := by decide +kernel
theorem dX12_unit_71 : decode cX12_unit 71 = .ok (.getfield 194, 3) := by decide +kernel
theorem dX12_unit_74 : decode cX12_unit 74 = .ok (.iaload, 1) := by decide +kernel
theorem dX12_unit_75 : decode cX12_unit 75 = .ok (.bipush 31, 2) := by decide +kernel
theorem dX12_unit_77 : decode cX12_unit 77 = .ok (.isub, 1) := by decide +kernel
theorem dX12_unit_78 : decode cX12_unit 78 = .ok (.invokevirtual 284, 3) := by decide +kernel
theorem dX12_unit_81 : decode cX12_unit 81 = .ok (.aload_n 0, 1) := by decide +kernel
theorem dX12_unit_82 : decode cX12_unit 82 = .ok (.invokevirtual 212, 3) := by decide +kernel
theorem dX12_unit_85 : decode cX12_unit 85 = .ok (.goto 8, 3) := by decide +kernel
theorem dX12_unit_88 : decode cX12_unit 88 = .ok (.aload_n 0, 1) := by decide +kernel
theorem dX12_unit_89 : decode cX12_unit 89 = .ok (.iconst 1, 1) := by decide +kernel
theorem dX12_unit_90 : decode cX12_unit 90 = .ok (.invokevirtual 206, 3) := by decide +kernel
theorem dX12_unit_93 : decode cX12_unit 93 = .ok (.return_, 1) := by decide +kernel
theorem dX12_termOf_0 : decode cX12_termOf 0 = .ok (.iconst 0, 1) := by decide +kernel
theorem dX12_termOf_1 : decode cX12_termOf 1 = .ok (.istore_n 3, 1) := by decide +kernel
theorem dX12_termOf_2 : decode cX12_termOf 2 = .ok (.iload_n 1, 1) := by decide +kernel
theorem dX12_termOf_3 : decode cX12_termOf 3 = .ok (.istore 4, 2) := by decide +kernel
theorem dX12_termOf_5 : decode cX12_termOf 5 = .ok (.iload 4, 2) := by decide +kernel
theorem dX12_termOf_7 : decode cX12_termOf 7 = .ok (.iload_n 2, 1) := by decide +kernel
theorem dX12_termOf_8 : decode cX12_termOf 8 = .ok (.if_icmp .ge 157, 3) := by decide +kernel
theorem dX12_termOf_11 : decode cX12_termOf 11 = .ok (.aload_n 0, 1) := by decide +kernel
theorem dX12_termOf_12 : decode cX12_termOf 12 = .ok (.getfield 92, 3) := by decide +kernel
theorem dX12_termOf_15 : decode cX12_termOf 15 = .ok (.iload 4, 2) := by decide +kernel
theorem dX12_termOf_17 : decode cX12_termOf 17 = .ok (.iaload, 1) := by decide +kernel
theorem dX12_termOf_18 : decode cX12_termOf 18 = .ok (.istore 5, 2) := by decide +kernel
theorem dX12_termOf_20 : decode cX12_termOf 20 = .ok (.iload 5, 2) := by decide +kernel
theorem dX12_termOf_22 : decode cX12_termOf 22 = .ok (.iconst 2, 1) := by decide +kernel
theorem dX12_termOf_23 : decode cX12_termOf 23 = .ok (.if_icmp .ge 42, 3) := by decide +kernel
theorem dX12_termOf_26 : decode cX12_termOf 26 = .ok (.aload_n 0, 1) := by decide +kernel
theorem dX12_termOf_27 : decode cX12_termOf 27 = .ok (.getfield 104, 3) := by decide +kernel
theorem dX12_termOf_30 : decode cX12_termOf 30 = .ok (.iload_n 3, 1) := by decide +kernel
theorem dX12_termOf_31 : decode cX12_termOf 31 = .ok (.iload 5, 2) := by decide +kernel
theorem dX12_termOf_33 : decode cX12_termOf 33 = .ok (.ifCond .ne 13, 3) := by decide +kernel
theorem dX12_termOf_36 : decode cX12_termOf 36 = .ok (.aload_n 0, 1) := by decide +kernel
theorem dX12_termOf_37 : decode cX12_termOf 37 = .ok (.getfield 95, 3) := by decide +kernel
theorem dX12_termOf_40 : decode cX12_termOf 40 = .ok (.iload 4, 2) := by decide +kernel
theorem dX12_termOf_42 : decode cX12_termOf 42 = .ok (.iaload, 1) := by decide +kernel
theorem dX12_termOf_43 : decode cX12_termOf 43 = .ok (.goto 15, 3) := by decide +kernel
theorem dX12_termOf_46 : decode cX12_termOf 46 = .ok (.aload_n 0, 1) := by decide +kernel
theorem dX12_termOf_47 : decode cX12_termOf 47 = .ok (.getfield 101, 3) := by decide +kernel
theorem dX12_termOf_50 : decode cX12_termOf 50 = .ok (.aload_n 0, 1) := by decide +kernel
theorem dX12_termOf_51 : decode cX12_termOf 51 = .ok (.getfield 95, 3) := by decide +kernel
theorem dX12_termOf_54 : decode cX12_termOf 54 = .ok (.iload 4, 2) := by decide +kernel
theorem dX12_termOf_56 : decode cX12_termOf 56 = .ok (.iaload, 1) := by decide +kernel
theorem dX12_termOf_57 : decode cX12_termOf 57 = .ok (.iaload, 1) := by decide +kernel
theorem dX12_termOf_58 : decode cX12_termOf 58 = .ok (.iastore, 1) := by decide +kernel
theorem dX12_termOf_59 : decode cX12_termOf 59 = .ok (.iinc 3 1, 3) := by decide +kernel
theorem dX12_termOf_62 : decode cX12_termOf 62 = .ok (.goto 97, 3) := by decide +kernel
theorem dX12_termOf_65 : decode cX12_termOf 65 = .ok (.iinc 3 (-1), 3) := by decide +kernel
theorem dX12_termOf_68 : decode cX12_termOf 68 = .ok (.aload_n 0, 1) := by decide +kernel
theorem dX12_termOf_69 : decode cX12_termOf 69 = .ok (.getfield 104, 3) := by decide +kernel
theorem dX12_termOf_72 : decode cX12_termOf 72 = .ok (.iload_n 3, 1) := by decide +kernel
theorem dX12_termOf_73 : decode cX12_termOf 73 = .ok (.iconst 1, 1) := by decide +kernel
theorem dX12_termOf_74 : decode cX12_termOf 74 = .ok (.isub, 1) := by decide +kernel
theorem dX12_termOf_75 : decode cX12_termOf 75 = .ok (.iaload, 1) := by decide +kernel
theorem dX12_termOf_76 : decode cX12_termOf 76 = .ok (.istore 6, 2) := by decide +kernel
theorem dX12_termOf_78 : decode cX12_termOf 78 = .ok (.aload_n 0, 1) := by decide +kernel
theorem dX12_termOf_79 : decode cX12_termOf 79 = .ok (.getfield 104, 3) := by decide +kernel
theorem dX12_termOf_82 : decode cX12_termOf 82 = .ok (.iload_n 3, 1) := by decide +kernel
theorem dX12_termOf_83 : decode cX12_termOf 83 = .ok (.iaload, 1) := by decide +kernel
theorem dX12_termOf_84 : decode cX12_termOf 84 = .ok (.istore 7, 2) := by decide +kernel
theorem dX12_termOf_86 : decode cX12_termOf 86 = .ok (.iload 5, 2) := by decide +kernel
theorem dX12_termOf_88 : decode cX12_termOf 88 = .ok (.iconst 5, 1) := by decide +kernel
theorem dX12_termOf_89 : decode cX12_termOf 89 = .ok (.if_icmp .ne 15, 3) := by decide +kernel
theorem dX12_termOf_92 : decode cX12_termOf 92 = .ok (.iload 7, 2) := by decide +kernel
theorem dX12_termOf_94 : decode cX12_termOf 94 = .ok (.ifCond .ne 10, 3) := by decide +kernel
theorem dX12_termOf_97 : decode cX12_termOf 97 = .ok (.aload_n 0, 1) := by decide +kernel
theorem dX12_termOf_98 : decode cX12_termOf 98 = .ok (.iconst 1, 1) := by decide +kernel
theorem dX12_termOf_99 : decode cX12_termOf 99 = .ok (.putfield 294, 3) := by decide +kernel
theorem dX12_termOf_102 : decode cX12_termOf 102 = .ok (.iconst 0, 1) := by decide +kernel
theorem dX12_termOf_103 : decode cX12_termOf 103 = .ok (.ireturn, 1) := by decide +kernel
theorem dX12_termOf_104 : decode cX12_termOf 104 = .ok (.aload_n 0, 1) := by decide +kernel
theorem dX12_termOf_105 : decode cX12_termOf 105 = .ok (.getfield 104, 3) := by decide +kernel
theorem dX12_termOf_108 : decode cX12_termOf 108 = .ok (.iload_n 3, 1) := by decide +kernel
theorem dX12_termOf_109 : decode cX12_termOf 109 = .ok (.iconst 1, 1) := by decide +kernel
theorem dX12_termOf_110 : decode cX12_termOf 110 = .ok (.isub, 1) := by decide +kernel
theorem dX12_termOf_111 : decode cX12_termOf 111 = .ok (.iload 5, 2) := by decide +kernel
theorem dX12_termOf_113 : decode cX12_termOf 113 = .ok (.iconst 2, 1) := by decide +kernel
theorem dX12_termOf_114 : decode cX12_termOf 114 = .ok (.if_icmp .ne 11, 3) := by decide +kernel
theorem dX12_termOf_117 : decode cX12_termOf 117 = .ok (.iload 6, 2) := by decide +kernel
theorem dX12_termOf_119 : decode cX12_termOf 119 = .ok (.iload 7, 2) := by decide +kernel
theorem dX12_termOf_121 : decode cX12_termOf 121 = .ok (.iadd, 1) := by decide +kernel
theorem dX12_termOf_122 : decode cX12_termOf 122 = .ok (.goto 36, 3) := by decide +kernel
theorem dX12_termOf_125 : decode cX12_termOf 125 = .ok (.iload 5, 2) := by decide +kernel
theorem dX12_termOf_127 : decode cX12_termOf 127 = .ok (.iconst 3, 1) := by decide +kernel
theorem dX12_termOf_128 : decode cX12_termOf 128 = .ok (.if_icmp .ne 11, 3) := by decide +kernel
theorem dX12_termOf_131 : decode cX12_termOf 131 = .ok (.iload 6, 2) := by decide +kernel
theorem dX12_termOf_133 : decode cX12_termOf 133 = .ok (.iload 7, 2) := by decide +kernel
theorem dX12_termOf_135 : decode cX12_termOf 135 = .ok (.isub, 1) := by decide +kernel
theorem dX12_termOf_136 : decode cX12_termOf 136 = .ok (.goto 22, 3) := by decide +kernel
theorem dX12_termOf_139 : decode cX12_termOf 139 = .ok (.iload 5, 2) := by decide +kernel
theorem dX12_termOf_141 : decode cX12_termOf 141 = .ok (.iconst 4, 1) := by decide +kernel
theorem dX12_termOf_142 : decode cX12_termOf 142 = .ok (.if_icmp .ne 11, 3) := by decide +kernel
theorem dX12_termOf_145 : decode cX12_termOf 145 = .ok (.iload 6, 2) := by decide +kernel
theorem dX12_termOf_147 : decode cX12_termOf 147 = .ok (.iload 7, 2) := by decide +kernel
theorem dX12_termOf_149 : decode cX12_termOf 149 = .ok (.imul, 1) := by decide +kernel
theorem dX12_termOf_150 : decode cX12_termOf 150 = .ok (.goto 8, 3) := by decide +kernel
theorem dX12_termOf_153 : decode cX12_termOf 153 = .ok (.iload 6, 2) := by decide +kernel
theorem dX12_termOf_155 : decode cX12_termOf 155 = .ok (.iload 7, 2) := by decide +kernel
theorem dX12_termOf_157 : decode cX12_termOf 157 = .ok (.idiv, 1) := by decide +kernel
theorem dX12_termOf_158 : decode cX12_termOf 158 = .ok (.iastore, 1) := by decide +kernel
theorem dX12_termOf_159 : decode cX12_termOf 159 = .ok (.iinc 4 1, 3) := by decide +kernel
theorem dX12_termOf_162 : decode cX12_termOf 162 = .ok (.goto (-157), 3) := by decide +kernel
theorem dX12_termOf_165 : decode cX12_termOf 165 = .ok (.aload_n 0, 1) := by decide +kernel
theorem dX12_termOf_166 : decode cX12_termOf 166 = .ok (.getfield 104, 3) := by decide +kernel
theorem dX12_termOf_169 : decode cX12_termOf 169 = .ok (.iconst 0, 1) := by decide +kernel
theorem dX12_termOf_170 : decode cX12_termOf 170 = .ok (.iaload, 1) := by decide +kernel
theorem dX12_termOf_171 : decode cX12_termOf 171 = .ok (.ireturn, 1) := by decide +kernel
theorem dX12_in_0 : decode cX12_in 0 = .ok (.iload_n 0, 1) := by decide +kernel
theorem dX12_in_1 : decode cX12_in 1 = .ok (.iload_n 1, 1) := by decide +kernel
theorem dX12_in_2 : decode cX12_in 2 = .ok (.if_icmp .lt 12, 3) := by decide +kernel
theorem dX12_in_5 : decode cX12_in 5 = .ok (.iload_n 0, 1) := by decide +kernel
theorem dX12_in_6 : decode cX12_in 6 = .ok (.iload_n 2, 1) := by decide +kernel
theorem dX12_in_7 : decode cX12_in 7 = .ok (.if_icmp .gt 7, 3) := by decide +kernel
theorem dX12_in_10 : decode cX12_in 10 = .ok (.iconst 1, 1) := by decide +kernel
theorem dX12_in_11 : decode cX12_in 11 = .ok (.goto 4, 3) := by decide +kernel
theorem dX12_in_14 : decode cX12_in 14 = .ok (.iconst 0, 1) := by decide +kernel
theorem dX12_in_15 : decode cX12_in 15 = .ok (.ireturn, 1) := by decide +kernel
theorem dX12_isBook_0 : decode cX12_isBook 0 = .ok (.iload_n 1, 1) := by decide +kernel
theorem dX12_isBook_1 : decode cX12_isBook 1 = .ok (.iconst 0, 1) := by decide +kernel
theorem dX12_isBook_2 : decode cX12_isBook 2 = .ok (.aload_n 0, 1) := by decide +kernel
theorem dX12_isBook_3 : decode cX12_isBook 3 = .ok (.getfield 43, 3) := by decide +kernel
theorem dX12_isBook_6 : decode cX12_isBook 6 = .ok (.aload_n 0, 1) := by decide +kernel
theorem dX12_isBook_7 : decode cX12_isBook 7 = .ok (.getfield 221, 3) := by decide +kernel
theorem dX12_isBook_10 : decode cX12_isBook 10 = .ok (.iaload, 1) := by decide +kernel
theorem dX12_isBook_11 : decode cX12_isBook 11 = .ok (.iconst 1, 1) := by decide +kernel
theorem dX12_isBook_12 : decode cX12_isBook 12 = .ok (.isub, 1) := by decide +kernel
theorem dX12_isBook_13 : decode cX12_isBook 13 = .ok (.invokestatic 298, 3) := by decide +kernel
theorem dX12_isBook_16 : decode cX12_isBook 16 = .ok (.ireturn, 1) := by decide +kernel
theorem dX12_isLevel_0 : decode cX12_isLevel 0 = .ok (.iload_n 1, 1) := by decide +kernel
theorem dX12_isLevel_1 : decode cX12_isLevel 1 = .ok (.iconst 0, 1) := by decide +kernel
theorem dX12_isLevel_2 : decode cX12_isLevel 2 = .ok (.aload_n 0, 1) := by decide +kernel
theorem dX12_isLevel_3 : decode cX12_isLevel 3 = .ok (.getfield 107, 3) := by decide +kernel
theorem dX12_isLevel_6 : decode cX12_isLevel 6 = .ok (.bipush 18, 2) := by decide +kernel
theorem dX12_isLevel_8 : decode cX12_isLevel 8 = .ok (.iaload, 1) := by decide +kernel
theorem dX12_isLevel_9 : decode cX12_isLevel 9 = .ok (.iconst 1, 1) := by decide +kernel
theorem dX12_isLevel_10 : decode cX12_isLevel 10 = .ok (.isub, 1) := by decide +kernel
theorem dX12_isLevel_11 : decode cX12_isLevel 11 = .ok (.invokestatic 298, 3) := by decide +kernel
theorem dX12_isLevel_14 : decode cX12_isLevel 14 = .ok (.ireturn, 1) := by decide +kernel
theorem dX12_copies_0 : decode cX12_copies 0 = .ok (.iconst 0, 1) := by decide +kernel
theorem dX12_copies_1 : decode cX12_copies 1 = .ok (.istore_n 1, 1) := by decide +kernel
theorem dX12_copies_2 : decode cX12_copies 2 = .ok (.iload_n 1, 1) := by decide +kernel
theorem dX12_copies_3 : decode cX12_copies 3 = .ok (.bipush 20, 2) := by decide +kernel
theorem dX12_copies_5 : decode cX12_copies 5 = .ok (.if_icmp .ge 21, 3) := by decide +kernel
theorem dX12_copies_8 : decode cX12_copies 8 = .ok (.aload_n 0, 1) := by decide +kernel
theorem dX12_copies_9 : decode cX12_copies 9 = .ok (.getfield 110, 3) := by decide +kernel
theorem dX12_copies_12 : decode cX12_copies 12 = .ok (.iload_n 1, 1) := by decide +kernel
theorem dX12_copies_13 : decode cX12_copies 13 = .ok (.aload_n 0, 1) := by decide +kernel
theorem dX12_copies_14 : decode cX12_copies 14 = .ok (.getfield 107, 3) := by decide +kernel
theorem dX12_copies_17 : decode cX12_copies 17 = .ok (.iload_n 1, 1) := by decide +kernel
theorem dX12_copies_18 : decode cX12_copies 18 = .ok (.iaload, 1) := by decide +kernel
theorem dX12_copies_19 : decode cX12_copies 19 = .ok (.iastore, 1) := by decide +kernel
theorem dX12_copies_20 : decode cX12_copies 20 = .ok (.iinc 1 1, 3) := by decide +kernel
theorem dX12_copies_23 : decode cX12_copies 23 = .ok (.goto (-21), 3) := by decide +kernel
theorem dX12_copies_26 : decode cX12_copies 26 = .ok (.aload_n 0, 1) := by decide +kernel
theorem dX12_copies_27 : decode cX12_copies 27 = .ok (.iconst 0, 1) := by decide +kernel
theorem dX12_copies_28 : decode cX12_copies 28 = .ok (.putfield 302, 3) := by decide +kernel
theorem dX12_copies_31 : decode cX12_copies 31 = .ok (.aload_n 0, 1) := by decide +kernel
theorem dX12_copies_32 : decode cX12_copies 32 = .ok (.iconst (-1), 1) := by decide +kernel
theorem dX12_copies_33 : decode cX12_copies 33 = .ok (.putfield 305, 3) := by decide +kernel
theorem dX12_copies_36 : decode cX12_copies 36 = .ok (.iconst 0, 1) := by decide +kernel
theorem dX12_copies_37 : decode cX12_copies 37 = .ok (.istore_n 1, 1) := by decide +kernel
theorem dX12_copies_38 : decode cX12_copies 38 = .ok (.iload_n 1, 1) := by decide +kernel
theorem dX12_copies_39 : decode cX12_copies 39 = .ok (.bipush 6, 2) := by decide +kernel
theorem dX12_copies_41 : decode cX12_copies 41 = .ok (.if_icmp .ge 16, 3) := by decide +kernel
theorem dX12_copies_44 : decode cX12_copies 44 = .ok (.aload_n 0, 1) := by decide +kernel
theorem dX12_copies_45 : decode cX12_copies 45 = .ok (.getfield 113, 3) := by decide +kernel
theorem dX12_copies_48 : decode cX12_copies 48 = .ok (.iload_n 1, 1) := by decide +kernel
theorem dX12_copies_49 : decode cX12_copies 49 = .ok (.iconst 0, 1) := by decide +kernel
theorem dX12_copies_50 : decode cX12_copies 50 = .ok (.iastore, 1) := by decide +kernel
theorem dX12_copies_51 : decode cX12_copies 51 = .ok (.iinc 1 1, 3) := by decide +kernel
theorem dX12_copies_54 : decode cX12_copies 54 = .ok (.goto (-16), 3) := by decide +kernel
theorem dX12_copies_57 : decode cX12_copies 57 = .ok (.return_, 1) := by decide +kernel
theorem dX12_levelOf_0 : decode cX12_levelOf 0 = .ok (.iconst 0, 1) := by decide +kernel
theorem dX12_levelOf_1 : decode cX12_levelOf 1 = .ok (.istore_n 2, 1) := by decide +kernel
theorem dX12_levelOf_2 : decode cX12_levelOf 2 = .ok (.iload_n 2, 1) := by decide +kernel
theorem dX12_levelOf_3 : decode cX12_levelOf 3 = .ok (.aload_n 0, 1) := by decide +kernel
theorem dX12_levelOf_4 : decode cX12_levelOf 4 = .ok (.getfield 110, 3) := by decide +kernel
theorem dX12_levelOf_7 : decode cX12_levelOf 7 = .ok (.bipush 18, 2) := by decide +kernel
theorem dX12_levelOf_9 : decode cX12_levelOf 9 = .ok (.iaload, 1) := by decide +kernel
theorem dX12_levelOf_10 : decode cX12_levelOf 10 = .ok (.if_icmp .ge 21, 3) := by decide +kernel
theorem dX12_levelOf_13 : decode cX12_levelOf 13 = .ok (.aload_n 0, 1) := by decide +kernel
theorem dX12_levelOf_14 : decode cX12_levelOf 14 = .ok (.getfield 110, 3) := by decide +kernel
theorem dX12_levelOf_17 : decode cX12_levelOf 17 = .ok (.iload_n 2, 1) := by decide +kernel
theorem dX12_levelOf_18 : decode cX12_levelOf 18 = .ok (.iaload, 1) := by decide +kernel
theorem dX12_levelOf_19 : decode cX12_levelOf 19 = .ok (.iload_n 1, 1) := by decide +kernel
theorem dX12_levelOf_20 : decode cX12_levelOf 20 = .ok (.if_icmp .ne 5, 3) := by decide +kernel
theorem dX12_levelOf_23 : decode cX12_levelOf 23 = .ok (.iload_n 2, 1) := by decide +kernel
theorem dX12_levelOf_24 : decode cX12_levelOf 24 = .ok (.ireturn, 1) := by decide +kernel
theorem dX12_levelOf_25 : decode cX12_levelOf 25 = .ok (.iinc 2 1, 3) := by decide +kernel
theorem dX12_levelOf_28 : decode cX12_levelOf 28 = .ok (.goto (-26), 3) := by decide +kernel
theorem dX12_levelOf_31 : decode cX12_levelOf 31 = .ok (.bipush (-2), 2) := by decide +kernel
theorem dX12_levelOf_33 : decode cX12_levelOf 33 = .ok (.ireturn, 1) := by decide +kernel
theorem dX12_longAt_0 : decode cX12_longAt 0 = .ok (.aload_n 0, 1) := by decide +kernel
theorem dX12_longAt_1 : decode cX12_longAt 1 = .ok (.getfield 46, 3) := by decide +kernel
theorem dX12_longAt_4 : decode cX12_longAt 4 = .ok (.bipush 6, 2) := by decide +kernel
theorem dX12_longAt_6 : decode cX12_longAt 6 = .ok (.aload_n 0, 1) := by decide +kernel
theorem dX12_longAt_7 : decode cX12_longAt 7 = .ok (.getfield 221, 3) := by decide +kernel
theorem dX12_longAt_10 : decode cX12_longAt 10 = .ok (.imul, 1) := by decide +kernel
theorem dX12_longAt_11 : decode cX12_longAt 11 = .ok (.aload_n 0, 1) := by decide +kernel
theorem dX12_longAt_12 : decode cX12_longAt 12 = .ok (.getfield 110, 3) := by decide +kernel
theorem dX12_longAt_15 : decode cX12_longAt 15 = .ok (.iload_n 1, 1) := by decide +kernel
theorem dX12_longAt_16 : decode cX12_longAt 16 = .ok (.iaload, 1) := by decide +kernel
theorem dX12_longAt_17 : decode cX12_longAt 17 = .ok (.iadd, 1) := by decide +kernel
theorem dX12_longAt_18 : decode cX12_longAt 18 = .ok (.iaload, 1) := by decide +kernel
theorem dX12_longAt_19 : decode cX12_longAt 19 = .ok (.ireturn, 1) := by decide +kernel
theorem dX12_weighsAt_0 : decode cX12_weighsAt 0 = .ok (.aload_n 0, 1) := by decide +kernel
theorem dX12_weighsAt_1 : decode cX12_weighsAt 1 = .ok (.getfield 110, 3) := by decide +kernel
theorem dX12_weighsAt_4 : decode cX12_weighsAt 4 = .ok (.iload_n 1, 1) := by decide +kernel
theorem dX12_weighsAt_5 : decode cX12_weighsAt 5 = .ok (.iaload, 1) := by decide +kernel
theorem dX12_weighsAt_6 : decode cX12_weighsAt 6 = .ok (.istore_n 2, 1) := by decide +kernel
theorem dX12_weighsAt_7 : decode cX12_weighsAt 7 = .ok (.aload_n 0, 1) := by decide +kernel
theorem dX12_weighsAt_8 : decode cX12_weighsAt 8 = .ok (.getfield 113, 3) := by decide +kernel
theorem dX12_weighsAt_11 : decode cX12_weighsAt 11 = .ok (.iload_n 2, 1) := by decide +kernel
theorem dX12_weighsAt_12 : decode cX12_weighsAt 12 = .ok (.iaload, 1) := by decide +kernel
theorem dX12_weighsAt_13 : decode cX12_weighsAt 13 = .ok (.ifCond .le 10, 3) := by decide +kernel
theorem dX12_weighsAt_16 : decode cX12_weighsAt 16 = .ok (.aload_n 0, 1) := by decide +kernel
theorem dX12_weighsAt_17 : decode cX12_weighsAt 17 = .ok (.getfield 113, 3) := by decide +kernel
theorem dX12_weighsAt_20 : decode cX12_weighsAt 20 = .ok (.iload_n 2, 1) := by decide +kernel
theorem dX12_weighsAt_21 : decode cX12_weighsAt 21 = .ok (.iaload, 1) := by decide +kernel
theorem dX12_weighsAt_22 : decode cX12_weighsAt 22 = .ok (.ireturn, 1) := by decide +kernel
theorem dX12_weighsAt_23 : decode cX12_weighsAt 23 = .ok (.bipush 6, 2) := by decide +kernel
theorem dX12_weighsAt_25 : decode cX12_weighsAt 25 = .ok (.aload_n 0, 1) := by decide +kernel
theorem dX12_weighsAt_26 : decode cX12_weighsAt 26 = .ok (.getfield 221, 3) := by decide +kernel
theorem dX12_weighsAt_29 : decode cX12_weighsAt 29 = .ok (.imul, 1) := by decide +kernel
theorem dX12_weighsAt_30 : decode cX12_weighsAt 30 = .ok (.iload_n 2, 1) := by decide +kernel
theorem dX12_weighsAt_31 : decode cX12_weighsAt 31 = .ok (.iadd, 1) := by decide +kernel
theorem dX12_weighsAt_32 : decode cX12_weighsAt 32 = .ok (.istore_n 3, 1) := by decide +kernel
theorem dX12_weighsAt_33 : decode cX12_weighsAt 33 = .ok (.aload_n 0, 1) := by decide +kernel
theorem dX12_weighsAt_34 : decode cX12_weighsAt 34 = .ok (.getfield 49, 3) := by decide +kernel
theorem dX12_weighsAt_37 : decode cX12_weighsAt 37 = .ok (.iload_n 3, 1) := by decide +kernel
theorem dX12_weighsAt_38 : decode cX12_weighsAt 38 = .ok (.iaload, 1) := by decide +kernel
theorem dX12_weighsAt_39 : decode cX12_weighsAt 39 = .ok (.istore 4, 2) := by decide +kernel
theorem dX12_weighsAt_41 : decode cX12_weighsAt 41 = .ok (.aload_n 0, 1) := by decide +kernel
theorem dX12_weighsAt_42 : decode cX12_weighsAt 42 = .ok (.getfield 70, 3) := by decide +kernel
theorem dX12_weighsAt_45 : decode cX12_weighsAt 45 = .ok (.iload_n 3, 1) := by decide +kernel
theorem dX12_weighsAt_46 : decode cX12_weighsAt 46 = .ok (.iaload, 1) := by decide +kernel
theorem dX12_weighsAt_47 : decode cX12_weighsAt 47 = .ok (.aload_n 0, 1) := by decide +kernel
theorem dX12_weighsAt_48 : decode cX12_weighsAt 48 = .ok (.getfield 73, 3) := by decide +kernel
theorem dX12_weighsAt_51 : decode cX12_weighsAt 51 = .ok (.iload_n 3, 1) := by decide +kernel
theorem dX12_weighsAt_52 : decode cX12_weighsAt 52 = .ok (.iaload, 1) := by decide +kernel
theorem dX12_weighsAt_53 : decode cX12_weighsAt 53 = .ok (.if_icmp .ne 6, 3) := by decide +kernel
theorem dX12_weighsAt_56 : decode cX12_weighsAt 56 = .ok (.iload 4, 2) := by decide +kernel
theorem dX12_weighsAt_58 : decode cX12_weighsAt 58 = .ok (.ireturn, 1) := by decide +kernel
theorem dX12_weighsAt_59 : decode cX12_weighsAt 59 = .ok (.aload_n 0, 1) := by decide +kernel
theorem dX12_weighsAt_60 : decode cX12_weighsAt 60 = .ok (.getfield 101, 3) := by decide +kernel
theorem dX12_weighsAt_63 : decode cX12_weighsAt 63 = .ok (.iconst 0, 1) := by decide +kernel
theorem dX12_weighsAt_64 : decode cX12_weighsAt 64 = .ok (.aload_n 0, 1) := by decide +kernel
theorem dX12_weighsAt_65 : decode cX12_weighsAt 65 = .ok (.getfield 46, 3) := by decide +kernel
theorem dX12_weighsAt_68 : decode cX12_weighsAt 68 = .ok (.iload_n 3, 1) := by decide +kernel
theorem dX12_weighsAt_69 : decode cX12_weighsAt 69 = .ok (.iaload, 1) := by decide +kernel
theorem dX12_weighsAt_70 : decode cX12_weighsAt 70 = .ok (.iastore, 1) := by decide +kernel
theorem dX12_weighsAt_71 : decode cX12_weighsAt 71 = .ok (.aload_n 0, 1) := by decide +kernel
theorem dX12_weighsAt_72 : decode cX12_weighsAt 72 = .ok (.getfield 101, 3) := by decide +kernel
theorem dX12_weighsAt_75 : decode cX12_weighsAt 75 = .ok (.iconst 1, 1) := by decide +kernel
theorem dX12_weighsAt_76 : decode cX12_weighsAt 76 = .ok (.iload 4, 2) := by decide +kernel
theorem dX12_weighsAt_78 : decode cX12_weighsAt 78 = .ok (.iastore, 1) := by decide +kernel
theorem dX12_weighsAt_79 : decode cX12_weighsAt 79 = .ok (.aload_n 0, 1) := by decide +kernel
theorem dX12_weighsAt_80 : decode cX12_weighsAt 80 = .ok (.getfield 101, 3) := by decide +kernel
theorem dX12_weighsAt_83 : decode cX12_weighsAt 83 = .ok (.iconst 2, 1) := by decide +kernel
theorem dX12_weighsAt_84 : decode cX12_weighsAt 84 = .ok (.iload_n 1, 1) := by decide +kernel
theorem dX12_weighsAt_85 : decode cX12_weighsAt 85 = .ok (.iastore, 1) := by decide +kernel
theorem dX12_weighsAt_86 : decode cX12_weighsAt 86 = .ok (.aload_n 0, 1) := by decide +kernel
theorem dX12_weighsAt_87 : decode cX12_weighsAt 87 = .ok (.getfield 101, 3) := by decide +kernel
theorem dX12_weighsAt_90 : decode cX12_weighsAt 90 = .ok (.iconst 3, 1) := by decide +kernel
theorem dX12_weighsAt_91 : decode cX12_weighsAt 91 = .ok (.aload_n 0, 1) := by decide +kernel
theorem dX12_weighsAt_92 : decode cX12_weighsAt 92 = .ok (.getfield 110, 3) := by decide +kernel
theorem dX12_weighsAt_95 : decode cX12_weighsAt 95 = .ok (.bipush 6, 2) := by decide +kernel
theorem dX12_weighsAt_97 : decode cX12_weighsAt 97 = .ok (.iload_n 1, 1) := by decide +kernel
theorem dX12_weighsAt_98 : decode cX12_weighsAt 98 = .ok (.iadd, 1) := by decide +kernel
theorem dX12_weighsAt_99 : decode cX12_weighsAt 99 = .ok (.iaload, 1) := by decide +kernel
theorem dX12_weighsAt_100 : decode cX12_weighsAt 100 = .ok (.iastore, 1) := by decide +kernel
theorem dX12_weighsAt_101 : decode cX12_weighsAt 101 = .ok (.aload_n 0, 1) := by decide +kernel
theorem dX12_weighsAt_102 : decode cX12_weighsAt 102 = .ok (.getfield 101, 3) := by decide +kernel
theorem dX12_weighsAt_105 : decode cX12_weighsAt 105 = .ok (.iconst 4, 1) := by decide +kernel
theorem dX12_weighsAt_106 : decode cX12_weighsAt 106 = .ok (.aload_n 0, 1) := by decide +kernel
theorem dX12_weighsAt_107 : decode cX12_weighsAt 107 = .ok (.getfield 110, 3) := by decide +kernel
theorem dX12_weighsAt_110 : decode cX12_weighsAt 110 = .ok (.bipush 18, 2) := by decide +kernel
theorem dX12_weighsAt_112 : decode cX12_weighsAt 112 = .ok (.iaload, 1) := by decide +kernel
theorem dX12_weighsAt_113 : decode cX12_weighsAt 113 = .ok (.iconst 1, 1) := by decide +kernel
theorem dX12_weighsAt_114 : decode cX12_weighsAt 114 = .ok (.isub, 1) := by decide +kernel
theorem dX12_weighsAt_115 : decode cX12_weighsAt 115 = .ok (.iload_n 1, 1) := by decide +kernel
theorem dX12_weighsAt_116 : decode cX12_weighsAt 116 = .ok (.isub, 1) := by decide +kernel
theorem dX12_weighsAt_117 : decode cX12_weighsAt 117 = .ok (.iastore, 1) := by decide +kernel
theorem dX12_weighsAt_118 : decode cX12_weighsAt 118 = .ok (.aload_n 0, 1) := by decide +kernel
theorem dX12_weighsAt_119 : decode cX12_weighsAt 119 = .ok (.iload_n 3, 1) := by decide +kernel
theorem dX12_weighsAt_120 : decode cX12_weighsAt 120 = .ok (.invokevirtual 308, 3) := by decide +kernel
theorem dX12_weighsAt_123 : decode cX12_weighsAt 123 = .ok (.istore 5, 2) := by decide +kernel
theorem dX12_weighsAt_125 : decode cX12_weighsAt 125 = .ok (.iload 5, 2) := by decide +kernel
theorem dX12_weighsAt_127 : decode cX12_weighsAt 127 = .ok (.iconst 1, 1) := by decide +kernel
theorem dX12_weighsAt_128 : decode cX12_weighsAt 128 = .ok (.if_icmp .ge 7, 3) := by decide +kernel
theorem dX12_weighsAt_131 : decode cX12_weighsAt 131 = .ok (.iconst 1, 1) := by decide +kernel
theorem dX12_weighsAt_132 : decode cX12_weighsAt 132 = .ok (.goto 17, 3) := by decide +kernel
theorem dX12_weighsAt_135 : decode cX12_weighsAt 135 = .ok (.iload 5, 2) := by decide +kernel
theorem dX12_weighsAt_137 : decode cX12_weighsAt 137 = .ok (.bipush 99, 2) := by decide +kernel
theorem dX12_weighsAt_139 : decode cX12_weighsAt 139 = .ok (.if_icmp .le 8, 3) := by decide +kernel
theorem dX12_weighsAt_142 : decode cX12_weighsAt 142 = .ok (.bipush 99, 2) := by decide +kernel
theorem dX12_weighsAt_144 : decode cX12_weighsAt 144 = .ok (.goto 5, 3) := by decide +kernel
theorem dX12_weighsAt_147 : decode cX12_weighsAt 147 = .ok (.iload 5, 2) := by decide +kernel
theorem dX12_weighsAt_149 : decode cX12_weighsAt 149 = .ok (.ireturn, 1) := by decide +kernel
theorem dX12_tellsBy_0 : decode cX12_tellsBy 0 = .ok (.aload_n 0, 1) := by decide +kernel
theorem dX12_tellsBy_1 : decode cX12_tellsBy 1 = .ok (.iconst 0, 1) := by decide +kernel
theorem dX12_tellsBy_2 : decode cX12_tellsBy 2 = .ok (.putfield 294, 3) := by decide +kernel
theorem dX12_tellsBy_5 : decode cX12_tellsBy 5 = .ok (.aload_n 0, 1) := by decide +kernel
theorem dX12_tellsBy_6 : decode cX12_tellsBy 6 = .ok (.getfield 70, 3) := by decide +kernel
theorem dX12_tellsBy_9 : decode cX12_tellsBy 9 = .ok (.iload_n 1, 1) := by decide +kernel
theorem dX12_tellsBy_10 : decode cX12_tellsBy 10 = .ok (.iaload, 1) := by decide +kernel
theorem dX12_tellsBy_11 : decode cX12_tellsBy 11 = .ok (.istore_n 2, 1) := by decide +kernel
theorem dX12_tellsBy_12 : decode cX12_tellsBy 12 = .ok (.iload_n 2, 1) := by decide +kernel
theorem dX12_tellsBy_13 : decode cX12_tellsBy 13 = .ok (.aload_n 0, 1) := by decide +kernel
theorem dX12_tellsBy_14 : decode cX12_tellsBy 14 = .ok (.getfield 73, 3) := by decide +kernel
theorem dX12_tellsBy_17 : decode cX12_tellsBy 17 = .ok (.iload_n 1, 1) := by decide +kernel
theorem dX12_tellsBy_18 : decode cX12_tellsBy 18 = .ok (.iaload, 1) := by decide +kernel
theorem dX12_tellsBy_19 : decode cX12_tellsBy 19 = .ok (.if_icmp .ge 101, 3) := by decide +kernel
theorem dX12_tellsBy_22 : decode cX12_tellsBy 22 = .ok (.aload_n 0, 1) := by decide +kernel
theorem dX12_tellsBy_23 : decode cX12_tellsBy 23 = .ok (.getfield 76, 3) := by decide +kernel
theorem dX12_tellsBy_26 : decode cX12_tellsBy 26 = .ok (.iload_n 2, 1) := by decide +kernel
theorem dX12_tellsBy_27 : decode cX12_tellsBy 27 = .ok (.baload, 1) := by decide +kernel
theorem dX12_tellsBy_28 : decode cX12_tellsBy 28 = .ok (.ifCond .eq 56, 3) := by decide +kernel
theorem dX12_tellsBy_31 : decode cX12_tellsBy 31 = .ok (.aload_n 0, 1) := by decide +kernel
theorem dX12_tellsBy_32 : decode cX12_tellsBy 32 = .ok (.aload_n 0, 1) := by decide +kernel
theorem dX12_tellsBy_33 : decode cX12_tellsBy 33 = .ok (.getfield 80, 3) := by decide +kernel
theorem dX12_tellsBy_36 : decode cX12_tellsBy 36 = .ok (.iload_n 2, 1) := by decide +kernel
theorem dX12_tellsBy_37 : decode cX12_tellsBy 37 = .ok (.iaload, 1) := by decide +kernel
theorem dX12_tellsBy_38 : decode cX12_tellsBy 38 = .ok (.aload_n 0, 1) := by decide +kernel
theorem dX12_tellsBy_39 : decode cX12_tellsBy 39 = .ok (.getfield 83, 3) := by decide +kernel
theorem dX12_tellsBy_42 : decode cX12_tellsBy 42 = .ok (.iload_n 2, 1) := by decide +kernel
theorem dX12_tellsBy_43 : decode cX12_tellsBy 43 = .ok (.iaload, 1) := by decide +kernel
theorem dX12_tellsBy_44 : decode cX12_tellsBy 44 = .ok (.invokevirtual 311, 3) := by decide +kernel
theorem dX12_tellsBy_47 : decode cX12_tellsBy 47 = .ok (.istore_n 3, 1) := by decide +kernel
theorem dX12_tellsBy_48 : decode cX12_tellsBy 48 = .ok (.aload_n 0, 1) := by decide +kernel
theorem dX12_tellsBy_49 : decode cX12_tellsBy 49 = .ok (.aload_n 0, 1) := by decide +kernel
theorem dX12_tellsBy_50 : decode cX12_tellsBy 50 = .ok (.getfield 83, 3) := by decide +kernel
theorem dX12_tellsBy_53 : decode cX12_tellsBy 53 = .ok (.iload_n 2, 1) := by decide +kernel
theorem dX12_tellsBy_54 : decode cX12_tellsBy 54 = .ok (.iaload, 1) := by decide +kernel
theorem dX12_tellsBy_55 : decode cX12_tellsBy 55 = .ok (.aload_n 0, 1) := by decide +kernel
theorem dX12_tellsBy_56 : decode cX12_tellsBy 56 = .ok (.getfield 86, 3) := by decide +kernel
theorem dX12_tellsBy_59 : decode cX12_tellsBy 59 = .ok (.iload_n 2, 1) := by decide +kernel
theorem dX12_tellsBy_60 : decode cX12_tellsBy 60 = .ok (.iaload, 1) := by decide +kernel
theorem dX12_tellsBy_61 : decode cX12_tellsBy 61 = .ok (.invokevirtual 311, 3) := by decide +kernel
theorem dX12_tellsBy_64 : decode cX12_tellsBy 64 = .ok (.istore 4, 2) := by decide +kernel
theorem dX12_tellsBy_66 : decode cX12_tellsBy 66 = .ok (.aload_n 0, 1) := by decide +kernel
theorem dX12_tellsBy_67 : decode cX12_tellsBy 67 = .ok (.getfield 294, 3) := by decide +kernel
theorem dX12_tellsBy_70 : decode cX12_tellsBy 70 = .ok (.ifCond .eq 5, 3) := by decide +kernel
theorem dX12_tellsBy_73 : decode cX12_tellsBy 73 = .ok (.iconst 0, 1) := by decide +kernel
theorem dX12_tellsBy_74 : decode cX12_tellsBy 74 = .ok (.ireturn, 1) := by decide +kernel
theorem dX12_tellsBy_75 : decode cX12_tellsBy 75 = .ok (.iload_n 3, 1) := by decide +kernel
theorem dX12_tellsBy_76 : decode cX12_tellsBy 76 = .ok (.iload 4, 2) := by decide +kernel
theorem dX12_tellsBy_78 : decode cX12_tellsBy 78 = .ok (.if_icmp .lt 6, 3) := by decide +kernel
theorem dX12_tellsBy_81 : decode cX12_tellsBy 81 = .ok (.goto 33, 3) := by decide +kernel
theorem dX12_tellsBy_84 : decode cX12_tellsBy 84 = .ok (.aload_n 0, 1) := by decide +kernel
theorem dX12_tellsBy_85 : decode cX12_tellsBy 85 = .ok (.aload_n 0, 1) := by decide +kernel
theorem dX12_tellsBy_86 : decode cX12_tellsBy 86 = .ok (.getfield 86, 3) := by decide +kernel
theorem dX12_tellsBy_89 : decode cX12_tellsBy 89 = .ok (.iload_n 2, 1) := by decide +kernel
theorem dX12_tellsBy_90 : decode cX12_tellsBy 90 = .ok (.iaload, 1) := by decide +kernel
theorem dX12_tellsBy_91 : decode cX12_tellsBy 91 = .ok (.aload_n 0, 1) := by decide +kernel
theorem dX12_tellsBy_92 : decode cX12_tellsBy 92 = .ok (.getfield 89, 3) := by decide +kernel
theorem dX12_tellsBy_95 : decode cX12_tellsBy 95 = .ok (.iload_n 2, 1) := by decide +kernel
theorem dX12_tellsBy_96 : decode cX12_tellsBy 96 = .ok (.iaload, 1) := by decide +kernel
theorem dX12_tellsBy_97 : decode cX12_tellsBy 97 = .ok (.invokevirtual 311, 3) := by decide +kernel
theorem dX12_tellsBy_100 : decode cX12_tellsBy 100 = .ok (.istore_n 3, 1) := by decide +kernel
theorem dX12_tellsBy_101 : decode cX12_tellsBy 101 = .ok (.aload_n 0, 1) := by decide +kernel
theorem dX12_tellsBy_102 : decode cX12_tellsBy 102 = .ok (.getfield 294, 3) := by decide +kernel
theorem dX12_tellsBy_105 : decode cX12_tellsBy 105 = .ok (.ifCond .eq 7, 3) := by decide +kernel
theorem dX12_tellsBy_108 : decode cX12_tellsBy 108 = .ok (.iconst 0, 1) := by decide +kernel
theorem dX12_tellsBy_109 : decode cX12_tellsBy 109 = .ok (.goto 4, 3) := by decide +kernel
theorem dX12_tellsBy_112 : decode cX12_tellsBy 112 = .ok (.iload_n 3, 1) := by decide +kernel
theorem dX12_tellsBy_113 : decode cX12_tellsBy 113 = .ok (.ireturn, 1) := by decide +kernel
theorem dX12_tellsBy_114 : decode cX12_tellsBy 114 = .ok (.iinc 2 1, 3) := by decide +kernel
theorem dX12_tellsBy_117 : decode cX12_tellsBy 117 = .ok (.goto (-105), 3) := by decide +kernel
theorem dX12_tellsBy_120 : decode cX12_tellsBy 120 = .ok (.iconst 0, 1) := by decide +kernel
theorem dX12_tellsBy_121 : decode cX12_tellsBy 121 = .ok (.ireturn, 1) := by decide +kernel
theorem dX12_fillsLoads_0 : decode cX12_fillsLoads 0 = .ok (.lconst 0, 1) := by decide +kernel
theorem dX12_fillsLoads_1 : decode cX12_fillsLoads 1 = .ok (.lstore_n 1, 1) := by decide +kernel
theorem dX12_fillsLoads_2 : decode cX12_fillsLoads 2 = .ok (.lconst 0, 1) := by decide +kernel
theorem dX12_fillsLoads_3 : decode cX12_fillsLoads 3 = .ok (.lstore_n 3, 1) := by decide +kernel
theorem dX12_fillsLoads_4 : decode cX12_fillsLoads 4 = .ok (.aload_n 0, 1) := by decide +kernel
theorem dX12_fillsLoads_5 : decode cX12_fillsLoads 5 = .ok (.getfield 110, 3) := by decide +kernel
theorem dX12_fillsLoads_8 : decode cX12_fillsLoads 8 = .ok (.bipush 18, 2) := by decide +kernel
theorem dX12_fillsLoads_10 : decode cX12_fillsLoads 10 = .ok (.iaload, 1) := by decide +kernel
theorem dX12_fillsLoads_11 : decode cX12_fillsLoads 11 = .ok (.iconst 1, 1) := by decide +kernel
theorem dX12_fillsLoads_12 : decode cX12_fillsLoads 12 = .ok (.isub, 1) := by decide +kernel
theorem dX12_fillsLoads_13 : decode cX12_fillsLoads 13 = .ok (.istore 5, 2) := by decide +kernel
theorem dX12_fillsLoads_15 : decode cX12_fillsLoads 15 = .ok (.iload 5, 2) := by decide +kernel
theorem dX12_fillsLoads_17 : decode cX12_fillsLoads 17 = .ok (.ifCond .lt 218, 3) := by decide +kernel
theorem dX12_fillsLoads_20 : decode cX12_fillsLoads 20 = .ok (.aload_n 0, 1) := by decide +kernel
theorem dX12_fillsLoads_21 : decode cX12_fillsLoads 21 = .ok (.iload 5, 2) := by decide +kernel
theorem dX12_fillsLoads_23 : decode cX12_fillsLoads 23 = .ok (.invokevirtual 314, 3) := by decide +kernel
theorem dX12_fillsLoads_26 : decode cX12_fillsLoads 26 = .ok (.istore 6, 2) := by decide +kernel
theorem dX12_fillsLoads_28 : decode cX12_fillsLoads 28 = .ok (.lload_n 1, 1) := by decide +kernel
theorem dX12_fillsLoads_29 : decode cX12_fillsLoads 29 = .ok (.iload 6, 2) := by decide +kernel
theorem dX12_fillsLoads_31 : decode cX12_fillsLoads 31 = .ok (.i2l, 1) := by decide +kernel
theorem dX12_fillsLoads_32 : decode cX12_fillsLoads 32 = .ok (.ladd, 1) := by decide +kernel
theorem dX12_fillsLoads_33 : decode cX12_fillsLoads 33 = .ok (.lstore_n 1, 1) := by decide +kernel
theorem dX12_fillsLoads_34 : decode cX12_fillsLoads 34 = .ok (.lload_n 3, 1) := by decide +kernel
theorem dX12_fillsLoads_35 : decode cX12_fillsLoads 35 = .ok (.iload 6, 2) := by decide +kernel
theorem dX12_fillsLoads_37 : decode cX12_fillsLoads 37 = .ok (.i2l, 1) := by decide +kernel
theorem dX12_fillsLoads_38 : decode cX12_fillsLoads 38 = .ok (.iconst 2, 1) := by decide +kernel
theorem dX12_fillsLoads_39 : decode cX12_fillsLoads 39 = .ok (.aload_n 0, 1) := by decide +kernel
theorem dX12_fillsLoads_40 : decode cX12_fillsLoads 40 = .ok (.getfield 110, 3) := by decide +kernel
theorem dX12_fillsLoads_43 : decode cX12_fillsLoads 43 = .ok (.bipush 6, 2) := by decide +kernel
theorem dX12_fillsLoads_45 : decode cX12_fillsLoads 45 = .ok (.iload 5, 2) := by decide +kernel
theorem dX12_fillsLoads_47 : decode cX12_fillsLoads 47 = .ok (.iadd, 1) := by decide +kernel
theorem dX12_fillsLoads_48 : decode cX12_fillsLoads 48 = .ok (.iaload, 1) := by decide +kernel
theorem dX12_fillsLoads_49 : decode cX12_fillsLoads 49 = .ok (.imul, 1) := by decide +kernel
theorem dX12_fillsLoads_50 : decode cX12_fillsLoads 50 = .ok (.aload_n 0, 1) := by decide +kernel
theorem dX12_fillsLoads_51 : decode cX12_fillsLoads 51 = .ok (.iload 5, 2) := by decide +kernel
theorem dX12_fillsLoads_53 : decode cX12_fillsLoads 53 = .ok (.invokevirtual 317, 3) := by decide +kernel
theorem dX12_fillsLoads_56 : decode cX12_fillsLoads 56 = .ok (.iadd, 1) := by decide +kernel
theorem dX12_fillsLoads_57 : decode cX12_fillsLoads 57 = .ok (.i2l, 1) := by decide +kernel
theorem dX12_fillsLoads_58 : decode cX12_fillsLoads 58 = .ok (.lmul, 1) := by decide +kernel
theorem dX12_fillsLoads_59 : decode cX12_fillsLoads 59 = .ok (.ladd, 1) := by decide +kernel
theorem dX12_fillsLoads_60 : decode cX12_fillsLoads 60 = .ok (.lstore_n 3, 1) := by decide +kernel
theorem dX12_fillsLoads_61 : decode cX12_fillsLoads 61 = .ok (.iconst 0, 1) := by decide +kernel
theorem dX12_fillsLoads_62 : decode cX12_fillsLoads 62 = .ok (.istore 7, 2) := by decide +kernel
theorem dX12_fillsLoads_64 : decode cX12_fillsLoads 64 = .ok (.iload 7, 2) := by decide +kernel
theorem dX12_fillsLoads_66 : decode cX12_fillsLoads 66 = .ok (.aload_n 0, 1) := by decide +kernel
theorem dX12_fillsLoads_67 : decode cX12_fillsLoads 67 = .ok (.getfield 55, 3) := by decide +kernel
theorem dX12_fillsLoads_70 : decode cX12_fillsLoads 70 = .ok (.aload_n 0, 1) := by decide +kernel
theorem dX12_fillsLoads_71 : decode cX12_fillsLoads 71 = .ok (.getfield 221, 3) := by decide +kernel
theorem dX12_fillsLoads_74 : decode cX12_fillsLoads 74 = .ok (.iaload, 1) := by decide +kernel
theorem dX12_fillsLoads_75 : decode cX12_fillsLoads 75 = .ok (.if_icmp .ge 87, 3) := by decide +kernel
theorem dX12_fillsLoads_78 : decode cX12_fillsLoads 78 = .ok (.bipush 6, 2) := by decide +kernel
theorem dX12_fillsLoads_80 : decode cX12_fillsLoads 80 = .ok (.aload_n 0, 1) := by decide +kernel
theorem dX12_fillsLoads_81 : decode cX12_fillsLoads 81 = .ok (.getfield 221, 3) := by decide +kernel
theorem dX12_fillsLoads_84 : decode cX12_fillsLoads 84 = .ok (.imul, 1) := by decide +kernel
theorem dX12_fillsLoads_85 : decode cX12_fillsLoads 85 = .ok (.iload 7, 2) := by decide +kernel
theorem dX12_fillsLoads_87 : decode cX12_fillsLoads 87 = .ok (.iadd, 1) := by decide +kernel
theorem dX12_fillsLoads_88 : decode cX12_fillsLoads 88 = .ok (.istore 8, 2) := by decide +kernel
theorem dX12_fillsLoads_90 : decode cX12_fillsLoads 90 = .ok (.aload_n 0, 1) := by decide +kernel
theorem dX12_fillsLoads_91 : decode cX12_fillsLoads 91 = .ok (.getfield 61, 3) := by decide +kernel
theorem dX12_fillsLoads_94 : decode cX12_fillsLoads 94 = .ok (.iload 8, 2) := by decide +kernel
theorem dX12_fillsLoads_96 : decode cX12_fillsLoads 96 = .ok (.iaload, 1) := by decide +kernel
theorem dX12_fillsLoads_97 : decode cX12_fillsLoads 97 = .ok (.aload_n 0, 1) := by decide +kernel
theorem dX12_fillsLoads_98 : decode cX12_fillsLoads 98 = .ok (.getfield 110, 3) := by decide +kernel
theorem dX12_fillsLoads_101 : decode cX12_fillsLoads 101 = .ok (.iload 5, 2) := by decide +kernel
theorem dX12_fillsLoads_103 : decode cX12_fillsLoads 103 = .ok (.iaload, 1) := by decide +kernel
theorem dX12_fillsLoads_104 : decode cX12_fillsLoads 104 = .ok (.if_icmp .eq 6, 3) := by decide +kernel
theorem dX12_fillsLoads_107 : decode cX12_fillsLoads 107 = .ok (.goto 49, 3) := by decide +kernel
theorem dX12_fillsLoads_110 : decode cX12_fillsLoads 110 = .ok (.lload_n 1, 1) := by decide +kernel
theorem dX12_fillsLoads_111 : decode cX12_fillsLoads 111 = .ok (.aload_n 0, 1) := by decide +kernel
theorem dX12_fillsLoads_112 : decode cX12_fillsLoads 112 = .ok (.getfield 58, 3) := by decide +kernel
theorem dX12_fillsLoads_115 : decode cX12_fillsLoads 115 = .ok (.iload 8, 2) := by decide +kernel
theorem dX12_fillsLoads_117 : decode cX12_fillsLoads 117 = .ok (.iaload, 1) := by decide +kernel
theorem dX12_fillsLoads_118 : decode cX12_fillsLoads 118 = .ok (.i2l, 1) := by decide +kernel
theorem dX12_fillsLoads_119 : decode cX12_fillsLoads 119 = .ok (.ladd, 1) := by decide +kernel
theorem dX12_fillsLoads_120 : decode cX12_fillsLoads 120 = .ok (.lstore_n 1, 1) := by decide +kernel
theorem dX12_fillsLoads_121 : decode cX12_fillsLoads 121 = .ok (.lload_n 3, 1) := by decide +kernel
theorem dX12_fillsLoads_122 : decode cX12_fillsLoads 122 = .ok (.ldc2_w 320, 3) := by decide +kernel
theorem dX12_fillsLoads_125 : decode cX12_fillsLoads 125 = .ok (.aload_n 0, 1) := by decide +kernel
theorem dX12_fillsLoads_126 : decode cX12_fillsLoads 126 = .ok (.getfield 58, 3) := by decide +kernel
theorem dX12_fillsLoads_129 : decode cX12_fillsLoads 129 = .ok (.iload 8, 2) := by decide +kernel
theorem dX12_fillsLoads_131 : decode cX12_fillsLoads 131 = .ok (.iaload, 1) := by decide +kernel
theorem dX12_fillsLoads_132 : decode cX12_fillsLoads 132 = .ok (.i2l, 1) := by decide +kernel
theorem dX12_fillsLoads_133 : decode cX12_fillsLoads 133 = .ok (.lmul, 1) := by decide +kernel
theorem dX12_fillsLoads_134 : decode cX12_fillsLoads 134 = .ok (.aload_n 0, 1) := by decide +kernel
theorem dX12_fillsLoads_135 : decode cX12_fillsLoads 135 = .ok (.getfield 110, 3) := by decide +kernel
theorem dX12_fillsLoads_138 : decode cX12_fillsLoads 138 = .ok (.bipush 6, 2) := by decide +kernel
theorem dX12_fillsLoads_140 : decode cX12_fillsLoads 140 = .ok (.iload 5, 2) := by decide +kernel
theorem dX12_fillsLoads_142 : decode cX12_fillsLoads 142 = .ok (.iadd, 1) := by decide +kernel
theorem dX12_fillsLoads_143 : decode cX12_fillsLoads 143 = .ok (.iaload, 1) := by decide +kernel
theorem dX12_fillsLoads_144 : decode cX12_fillsLoads 144 = .ok (.aload_n 0, 1) := by decide +kernel
theorem dX12_fillsLoads_145 : decode cX12_fillsLoads 145 = .ok (.getfield 64, 3) := by decide +kernel
theorem dX12_fillsLoads_148 : decode cX12_fillsLoads 148 = .ok (.iload 8, 2) := by decide +kernel
theorem dX12_fillsLoads_150 : decode cX12_fillsLoads 150 = .ok (.iaload, 1) := by decide +kernel
theorem dX12_fillsLoads_151 : decode cX12_fillsLoads 151 = .ok (.iadd, 1) := by decide +kernel
theorem dX12_fillsLoads_152 : decode cX12_fillsLoads 152 = .ok (.i2l, 1) := by decide +kernel
theorem dX12_fillsLoads_153 : decode cX12_fillsLoads 153 = .ok (.lmul, 1) := by decide +kernel
theorem dX12_fillsLoads_154 : decode cX12_fillsLoads 154 = .ok (.ladd, 1) := by decide +kernel
theorem dX12_fillsLoads_155 : decode cX12_fillsLoads 155 = .ok (.lstore_n 3, 1) := by decide +kernel
theorem dX12_fillsLoads_156 : decode cX12_fillsLoads 156 = .ok (.iinc 7 1, 3) := by decide +kernel
theorem dX12_fillsLoads_159 : decode cX12_fillsLoads 159 = .ok (.goto (-95), 3) := by decide +kernel
theorem dX12_fillsLoads_162 : decode cX12_fillsLoads 162 = .ok (.aload_n 0, 1) := by decide +kernel
theorem dX12_fillsLoads_163 : decode cX12_fillsLoads 163 = .ok (.getfield 305, 3) := by decide +kernel
theorem dX12_fillsLoads_166 : decode cX12_fillsLoads 166 = .ok (.aload_n 0, 1) := by decide +kernel
theorem dX12_fillsLoads_167 : decode cX12_fillsLoads 167 = .ok (.getfield 110, 3) := by decide +kernel
theorem dX12_fillsLoads_170 : decode cX12_fillsLoads 170 = .ok (.iload 5, 2) := by decide +kernel
theorem dX12_fillsLoads_172 : decode cX12_fillsLoads 172 = .ok (.iaload, 1) := by decide +kernel
theorem dX12_fillsLoads_173 : decode cX12_fillsLoads 173 = .ok (.if_icmp .ne 40, 3) := by decide +kernel
theorem dX12_fillsLoads_176 : decode cX12_fillsLoads 176 = .ok (.lload_n 1, 1) := by decide +kernel
theorem dX12_fillsLoads_177 : decode cX12_fillsLoads 177 = .ok (.aload_n 0, 1) := by decide +kernel
theorem dX12_fillsLoads_178 : decode cX12_fillsLoads 178 = .ok (.getfield 302, 3) := by decide +kernel
theorem dX12_fillsLoads_181 : decode cX12_fillsLoads 181 = .ok (.i2l, 1) := by decide +kernel
theorem dX12_fillsLoads_182 : decode cX12_fillsLoads 182 = .ok (.ladd, 1) := by decide +kernel
theorem dX12_fillsLoads_183 : decode cX12_fillsLoads 183 = .ok (.lstore_n 1, 1) := by decide +kernel
theorem dX12_fillsLoads_184 : decode cX12_fillsLoads 184 = .ok (.lload_n 3, 1) := by decide +kernel
theorem dX12_fillsLoads_185 : decode cX12_fillsLoads 185 = .ok (.ldc2_w 320, 3) := by decide +kernel
theorem dX12_fillsLoads_188 : decode cX12_fillsLoads 188 = .ok (.aload_n 0, 1) := by decide +kernel
theorem dX12_fillsLoads_189 : decode cX12_fillsLoads 189 = .ok (.getfield 302, 3) := by decide +kernel
theorem dX12_fillsLoads_192 : decode cX12_fillsLoads 192 = .ok (.i2l, 1) := by decide +kernel
theorem dX12_fillsLoads_193 : decode cX12_fillsLoads 193 = .ok (.lmul, 1) := by decide +kernel
theorem dX12_fillsLoads_194 : decode cX12_fillsLoads 194 = .ok (.aload_n 0, 1) := by decide +kernel
theorem dX12_fillsLoads_195 : decode cX12_fillsLoads 195 = .ok (.getfield 110, 3) := by decide +kernel
theorem dX12_fillsLoads_198 : decode cX12_fillsLoads 198 = .ok (.bipush 6, 2) := by decide +kernel
theorem dX12_fillsLoads_200 : decode cX12_fillsLoads 200 = .ok (.iload 5, 2) := by decide +kernel
theorem dX12_fillsLoads_202 : decode cX12_fillsLoads 202 = .ok (.iadd, 1) := by decide +kernel
theorem dX12_fillsLoads_203 : decode cX12_fillsLoads 203 = .ok (.iaload, 1) := by decide +kernel
theorem dX12_fillsLoads_204 : decode cX12_fillsLoads 204 = .ok (.aload_n 0, 1) := by decide +kernel
theorem dX12_fillsLoads_205 : decode cX12_fillsLoads 205 = .ok (.getfield 322, 3) := by decide +kernel
theorem dX12_fillsLoads_208 : decode cX12_fillsLoads 208 = .ok (.iadd, 1) := by decide +kernel
theorem dX12_fillsLoads_209 : decode cX12_fillsLoads 209 = .ok (.i2l, 1) := by decide +kernel
theorem dX12_fillsLoads_210 : decode cX12_fillsLoads 210 = .ok (.lmul, 1) := by decide +kernel
theorem dX12_fillsLoads_211 : decode cX12_fillsLoads 211 = .ok (.ladd, 1) := by decide +kernel
theorem dX12_fillsLoads_212 : decode cX12_fillsLoads 212 = .ok (.lstore_n 3, 1) := by decide +kernel
theorem dX12_fillsLoads_213 : decode cX12_fillsLoads 213 = .ok (.aload_n 0, 1) := by decide +kernel
theorem dX12_fillsLoads_214 : decode cX12_fillsLoads 214 = .ok (.getfield 116, 3) := by decide +kernel
theorem dX12_fillsLoads_217 : decode cX12_fillsLoads 217 = .ok (.iload 5, 2) := by decide +kernel
theorem dX12_fillsLoads_219 : decode cX12_fillsLoads 219 = .ok (.lload_n 1, 1) := by decide +kernel
theorem dX12_fillsLoads_220 : decode cX12_fillsLoads 220 = .ok (.lastore, 1) := by decide +kernel
theorem dX12_fillsLoads_221 : decode cX12_fillsLoads 221 = .ok (.aload_n 0, 1) := by decide +kernel
theorem dX12_fillsLoads_222 : decode cX12_fillsLoads 222 = .ok (.getfield 119, 3) := by decide +kernel
theorem dX12_fillsLoads_225 : decode cX12_fillsLoads 225 = .ok (.iload 5, 2) := by decide +kernel
theorem dX12_fillsLoads_227 : decode cX12_fillsLoads 227 = .ok (.lload_n 3, 1) := by decide +kernel
theorem dX12_fillsLoads_228 : decode cX12_fillsLoads 228 = .ok (.lastore, 1) := by decide +kernel
theorem dX12_fillsLoads_229 : decode cX12_fillsLoads 229 = .ok (.iinc 5 (-1), 3) := by decide +kernel
theorem dX12_fillsLoads_232 : decode cX12_fillsLoads 232 = .ok (.goto (-217), 3) := by decide +kernel
theorem dX12_fillsLoads_235 : decode cX12_fillsLoads 235 = .ok (.return_, 1) := by decide +kernel
theorem dX12_leftBelow_0 : decode cX12_leftBelow 0 = .ok (.iload_n 1, 1) := by decide +kernel
theorem dX12_leftBelow_1 : decode cX12_leftBelow 1 = .ok (.ifCond .ne 16, 3) := by decide +kernel
theorem dX12_leftBelow_4 : decode cX12_leftBelow 4 = .ok (.aload_n 0, 1) := by decide +kernel
theorem dX12_leftBelow_5 : decode cX12_leftBelow 5 = .ok (.getfield 52, 3) := by decide +kernel
theorem dX12_leftBelow_8 : decode cX12_leftBelow 8 = .ok (.aload_n 0, 1) := by decide +kernel
theorem dX12_leftBelow_9 : decode cX12_leftBelow 9 = .ok (.getfield 221, 3) := by decide +kernel
theorem dX12_leftBelow_12 : decode cX12_leftBelow 12 = .ok (.iaload, 1) := by decide +kernel
theorem dX12_leftBelow_13 : decode cX12_leftBelow 13 = .ok (.ineg, 1) := by decide +kernel
theorem dX12_leftBelow_14 : decode cX12_leftBelow 14 = .ok (.goto 11, 3) := by decide +kernel
theorem dX12_leftBelow_17 : decode cX12_leftBelow 17 = .ok (.aload_n 0, 1) := by decide +kernel
theorem dX12_leftBelow_18 : decode cX12_leftBelow 18 = .ok (.getfield 110, 3) := by decide +kernel
theorem dX12_leftBelow_21 : decode cX12_leftBelow 21 = .ok (.iconst 5, 1) := by decide +kernel
theorem dX12_leftBelow_22 : decode cX12_leftBelow 22 = .ok (.iload_n 1, 1) := by decide +kernel
theorem dX12_leftBelow_23 : decode cX12_leftBelow 23 = .ok (.iadd, 1) := by decide +kernel
theorem dX12_leftBelow_24 : decode cX12_leftBelow 24 = .ok (.iaload, 1) := by decide +kernel
theorem dX12_leftBelow_25 : decode cX12_leftBelow 25 = .ok (.ireturn, 1) := by decide +kernel
theorem dX12_rightBelow_0 : decode cX12_rightBelow 0 = .ok (.iload_n 1, 1) := by decide +kernel
theorem dX12_rightBelow_1 : decode cX12_rightBelow 1 = .ok (.ifCond .ne 7, 3) := by decide +kernel
theorem dX12_rightBelow_4 : decode cX12_rightBelow 4 = .ok (.iconst 0, 1) := by decide +kernel
theorem dX12_rightBelow_5 : decode cX12_rightBelow 5 = .ok (.goto 19, 3) := by decide +kernel
theorem dX12_rightBelow_8 : decode cX12_rightBelow 8 = .ok (.aload_n 0, 1) := by decide +kernel
theorem dX12_rightBelow_9 : decode cX12_rightBelow 9 = .ok (.getfield 110, 3) := by decide +kernel
theorem dX12_rightBelow_12 : decode cX12_rightBelow 12 = .ok (.iconst 5, 1) := by decide +kernel
theorem dX12_rightBelow_13 : decode cX12_rightBelow 13 = .ok (.iload_n 1, 1) := by decide +kernel
theorem dX12_rightBelow_14 : decode cX12_rightBelow 14 = .ok (.iadd, 1) := by decide +kernel
theorem dX12_rightBelow_15 : decode cX12_rightBelow 15 = .ok (.iaload, 1) := by decide +kernel
theorem dX12_rightBelow_16 : decode cX12_rightBelow 16 = .ok (.aload_n 0, 1) := by decide +kernel
theorem dX12_rightBelow_17 : decode cX12_rightBelow 17 = .ok (.iload_n 1, 1) := by decide +kernel
theorem dX12_rightBelow_18 : decode cX12_rightBelow 18 = .ok (.iconst 1, 1) := by decide +kernel
theorem dX12_rightBelow_19 : decode cX12_rightBelow 19 = .ok (.isub, 1) := by decide +kernel
theorem dX12_rightBelow_20 : decode cX12_rightBelow 20 = .ok (.invokevirtual 317, 3) := by decide +kernel
theorem dX12_rightBelow_23 : decode cX12_rightBelow 23 = .ok (.iadd, 1) := by decide +kernel
theorem dX12_rightBelow_24 : decode cX12_rightBelow 24 = .ok (.ireturn, 1) := by decide +kernel
theorem dX12_leftOf_0 : decode cX12_leftOf 0 = .ok (.aload_n 0, 1) := by decide +kernel
theorem dX12_leftOf_1 : decode cX12_leftOf 1 = .ok (.getfield 110, 3) := by decide +kernel
theorem dX12_leftOf_4 : decode cX12_leftOf 4 = .ok (.bipush 6, 2) := by decide +kernel
theorem dX12_leftOf_6 : decode cX12_leftOf 6 = .ok (.iload_n 1, 1) := by decide +kernel
theorem dX12_leftOf_7 : decode cX12_leftOf 7 = .ok (.iadd, 1) := by decide +kernel
theorem dX12_leftOf_8 : decode cX12_leftOf 8 = .ok (.iaload, 1) := by decide +kernel
theorem dX12_leftOf_9 : decode cX12_leftOf 9 = .ok (.aload_n 0, 1) := by decide +kernel
theorem dX12_leftOf_10 : decode cX12_leftOf 10 = .ok (.iload_n 1, 1) := by decide +kernel
theorem dX12_leftOf_11 : decode cX12_leftOf 11 = .ok (.invokevirtual 325, 3) := by decide +kernel
theorem dX12_leftOf_14 : decode cX12_leftOf 14 = .ok (.if_icmp .le 15, 3) := by decide +kernel
theorem dX12_leftOf_17 : decode cX12_leftOf 17 = .ok (.aload_n 0, 1) := by decide +kernel
theorem dX12_leftOf_18 : decode cX12_leftOf 18 = .ok (.getfield 110, 3) := by decide +kernel
theorem dX12_leftOf_21 : decode cX12_leftOf 21 = .ok (.bipush 6, 2) := by decide +kernel
theorem dX12_leftOf_23 : decode cX12_leftOf 23 = .ok (.iload_n 1, 1) := by decide +kernel
theorem dX12_leftOf_24 : decode cX12_leftOf 24 = .ok (.iadd, 1) := by decide +kernel
theorem dX12_leftOf_25 : decode cX12_leftOf 25 = .ok (.iaload, 1) := by decide +kernel
theorem dX12_leftOf_26 : decode cX12_leftOf 26 = .ok (.goto 8, 3) := by decide +kernel
theorem dX12_leftOf_29 : decode cX12_leftOf 29 = .ok (.aload_n 0, 1) := by decide +kernel
theorem dX12_leftOf_30 : decode cX12_leftOf 30 = .ok (.iload_n 1, 1) := by decide +kernel
theorem dX12_leftOf_31 : decode cX12_leftOf 31 = .ok (.invokevirtual 325, 3) := by decide +kernel
theorem dX12_leftOf_34 : decode cX12_leftOf 34 = .ok (.ireturn, 1) := by decide +kernel
theorem dX12_rightOf_0 : decode cX12_rightOf 0 = .ok (.aload_n 0, 1) := by decide +kernel
theorem dX12_rightOf_1 : decode cX12_rightOf 1 = .ok (.getfield 110, 3) := by decide +kernel
theorem dX12_rightOf_4 : decode cX12_rightOf 4 = .ok (.bipush 6, 2) := by decide +kernel
theorem dX12_rightOf_6 : decode cX12_rightOf 6 = .ok (.iload_n 1, 1) := by decide +kernel
theorem dX12_rightOf_7 : decode cX12_rightOf 7 = .ok (.iadd, 1) := by decide +kernel
theorem dX12_rightOf_8 : decode cX12_rightOf 8 = .ok (.iaload, 1) := by decide +kernel
theorem dX12_rightOf_9 : decode cX12_rightOf 9 = .ok (.aload_n 0, 1) := by decide +kernel
theorem dX12_rightOf_10 : decode cX12_rightOf 10 = .ok (.iload_n 1, 1) := by decide +kernel
theorem dX12_rightOf_11 : decode cX12_rightOf 11 = .ok (.invokevirtual 317, 3) := by decide +kernel
theorem dX12_rightOf_14 : decode cX12_rightOf 14 = .ok (.iadd, 1) := by decide +kernel
theorem dX12_rightOf_15 : decode cX12_rightOf 15 = .ok (.istore_n 2, 1) := by decide +kernel
theorem dX12_rightOf_16 : decode cX12_rightOf 16 = .ok (.iload_n 2, 1) := by decide +kernel
theorem dX12_rightOf_17 : decode cX12_rightOf 17 = .ok (.aload_n 0, 1) := by decide +kernel
theorem dX12_rightOf_18 : decode cX12_rightOf 18 = .ok (.iload_n 1, 1) := by decide +kernel
theorem dX12_rightOf_19 : decode cX12_rightOf 19 = .ok (.invokevirtual 328, 3) := by decide +kernel
theorem dX12_rightOf_22 : decode cX12_rightOf 22 = .ok (.if_icmp .ge 7, 3) := by decide +kernel
theorem dX12_rightOf_25 : decode cX12_rightOf 25 = .ok (.iload_n 2, 1) := by decide +kernel
theorem dX12_rightOf_26 : decode cX12_rightOf 26 = .ok (.goto 8, 3) := by decide +kernel
theorem dX12_rightOf_29 : decode cX12_rightOf 29 = .ok (.aload_n 0, 1) := by decide +kernel
theorem dX12_rightOf_30 : decode cX12_rightOf 30 = .ok (.iload_n 1, 1) := by decide +kernel
theorem dX12_rightOf_31 : decode cX12_rightOf 31 = .ok (.invokevirtual 328, 3) := by decide +kernel
theorem dX12_rightOf_34 : decode cX12_rightOf 34 = .ok (.ireturn, 1) := by decide +kernel
theorem dX12_isStanding_0 : decode cX12_isStanding 0 = .ok (.iload_n 1, 1) := by decide +kernel
theorem dX12_isStanding_1 : decode cX12_isStanding 1 = .ok (.ifCond .le 18, 3) := by decide +kernel
theorem dX12_isStanding_4 : decode cX12_isStanding 4 = .ok (.aload_n 0, 1) := by decide +kernel
theorem dX12_isStanding_5 : decode cX12_isStanding 5 = .ok (.getfield 110, 3) := by decide +kernel
theorem dX12_isStanding_8 : decode cX12_isStanding 8 = .ok (.bipush 12, 2) := by decide +kernel
theorem dX12_isStanding_10 : decode cX12_isStanding 10 = .ok (.iload_n 1, 1) := by decide +kernel
theorem dX12_isStanding_11 : decode cX12_isStanding 11 = .ok (.iadd, 1) := by decide +kernel
theorem dX12_isStanding_12 : decode cX12_isStanding 12 = .ok (.iaload, 1) := by decide +kernel
theorem dX12_isStanding_13 : decode cX12_isStanding 13 = .ok (.iconst 1, 1) := by decide +kernel
theorem dX12_isStanding_14 : decode cX12_isStanding 14 = .ok (.if_icmp .ne 5, 3) := by decide +kernel
theorem dX12_isStanding_17 : decode cX12_isStanding 17 = .ok (.iconst 1, 1) := by decide +kernel
theorem dX12_isStanding_18 : decode cX12_isStanding 18 = .ok (.ireturn, 1) := by decide +kernel
theorem dX12_isStanding_19 : decode cX12_isStanding 19 = .ok (.ldc2_w 320, 3) := by decide +kernel
theorem dX12_isStanding_22 : decode cX12_isStanding 22 = .ok (.aload_n 0, 1) := by decide +kernel
theorem dX12_isStanding_23 : decode cX12_isStanding 23 = .ok (.getfield 116, 3) := by decide +kernel
theorem dX12_isStanding_26 : decode cX12_isStanding 26 = .ok (.iload_n 1, 1) := by decide +kernel
theorem dX12_isStanding_27 : decode cX12_isStanding 27 = .ok (.laload, 1) := by decide +kernel
theorem dX12_isStanding_28 : decode cX12_isStanding 28 = .ok (.lmul, 1) := by decide +kernel
theorem dX12_isStanding_29 : decode cX12_isStanding 29 = .ok (.lstore_n 2, 1) := by decide +kernel
theorem dX12_isStanding_30 : decode cX12_isStanding 30 = .ok (.aload_n 0, 1) := by decide +kernel
theorem dX12_isStanding_31 : decode cX12_isStanding 31 = .ok (.iload_n 1, 1) := by decide +kernel
theorem dX12_isStanding_32 : decode cX12_isStanding 32 = .ok (.invokevirtual 331, 3) := by decide +kernel
theorem dX12_isStanding_35 : decode cX12_isStanding 35 = .ok (.aload_n 0, 1) := by decide +kernel
theorem dX12_isStanding_36 : decode cX12_isStanding 36 = .ok (.iload_n 1, 1) := by decide +kernel
theorem dX12_isStanding_37 : decode cX12_isStanding 37 = .ok (.invokevirtual 334, 3) := by decide +kernel
theorem dX12_isStanding_40 : decode cX12_isStanding 40 = .ok (.if_icmp .gt 43, 3) := by decide +kernel
theorem dX12_isStanding_43 : decode cX12_isStanding 43 = .ok (.aload_n 0, 1) := by decide +kernel
theorem dX12_isStanding_44 : decode cX12_isStanding 44 = .ok (.getfield 119, 3) := by decide +kernel
theorem dX12_isStanding_47 : decode cX12_isStanding 47 = .ok (.iload_n 1, 1) := by decide +kernel
theorem dX12_isStanding_48 : decode cX12_isStanding 48 = .ok (.laload, 1) := by decide +kernel
theorem dX12_isStanding_49 : decode cX12_isStanding 49 = .ok (.lload_n 2, 1) := by decide +kernel
theorem dX12_isStanding_50 : decode cX12_isStanding 50 = .ok (.aload_n 0, 1) := by decide +kernel
theorem dX12_isStanding_51 : decode cX12_isStanding 51 = .ok (.iload_n 1, 1) := by decide +kernel
theorem dX12_isStanding_52 : decode cX12_isStanding 52 = .ok (.invokevirtual 331, 3) := by decide +kernel
theorem dX12_isStanding_55 : decode cX12_isStanding 55 = .ok (.i2l, 1) := by decide +kernel
theorem dX12_isStanding_56 : decode cX12_isStanding 56 = .ok (.lmul, 1) := by decide +kernel
theorem dX12_isStanding_57 : decode cX12_isStanding 57 = .ok (.lcmp, 1) := by decide +kernel
theorem dX12_isStanding_58 : decode cX12_isStanding 58 = .ok (.ifCond .lt 25, 3) := by decide +kernel
theorem dX12_isStanding_61 : decode cX12_isStanding 61 = .ok (.aload_n 0, 1) := by decide +kernel
theorem dX12_isStanding_62 : decode cX12_isStanding 62 = .ok (.getfield 119, 3) := by decide +kernel
theorem dX12_isStanding_65 : decode cX12_isStanding 65 = .ok (.iload_n 1, 1) := by decide +kernel
theorem dX12_isStanding_66 : decode cX12_isStanding 66 = .ok (.laload, 1) := by decide +kernel
theorem dX12_isStanding_67 : decode cX12_isStanding 67 = .ok (.lload_n 2, 1) := by decide +kernel
theorem dX12_isStanding_68 : decode cX12_isStanding 68 = .ok (.aload_n 0, 1) := by decide +kernel
theorem dX12_isStanding_69 : decode cX12_isStanding 69 = .ok (.iload_n 1, 1) := by decide +kernel
theorem dX12_isStanding_70 : decode cX12_isStanding 70 = .ok (.invokevirtual 334, 3) := by decide +kernel
theorem dX12_isStanding_73 : decode cX12_isStanding 73 = .ok (.i2l, 1) := by decide +kernel
theorem dX12_isStanding_74 : decode cX12_isStanding 74 = .ok (.lmul, 1) := by decide +kernel
theorem dX12_isStanding_75 : decode cX12_isStanding 75 = .ok (.lcmp, 1) := by decide +kernel
theorem dX12_isStanding_76 : decode cX12_isStanding 76 = .ok (.ifCond .gt 7, 3) := by decide +kernel
theorem dX12_isStanding_79 : decode cX12_isStanding 79 = .ok (.iconst 1, 1) := by decide +kernel
theorem dX12_isStanding_80 : decode cX12_isStanding 80 = .ok (.goto 4, 3) := by decide +kernel
theorem dX12_isStanding_83 : decode cX12_isStanding 83 = .ok (.iconst 0, 1) := by decide +kernel
theorem dX12_isStanding_84 : decode cX12_isStanding 84 = .ok (.ireturn, 1) := by decide +kernel
theorem dX12_tipsAt_0 : decode cX12_tipsAt 0 = .ok (.aload_n 0, 1) := by decide +kernel
theorem dX12_tipsAt_1 : decode cX12_tipsAt 1 = .ok (.invokevirtual 337, 3) := by decide +kernel
theorem dX12_tipsAt_4 : decode cX12_tipsAt 4 = .ok (.iconst 0, 1) := by decide +kernel
theorem dX12_tipsAt_5 : decode cX12_tipsAt 5 = .ok (.istore_n 1, 1) := by decide +kernel
theorem dX12_tipsAt_6 : decode cX12_tipsAt 6 = .ok (.iload_n 1, 1) := by decide +kernel
theorem dX12_tipsAt_7 : decode cX12_tipsAt 7 = .ok (.aload_n 0, 1) := by decide +kernel
theorem dX12_tipsAt_8 : decode cX12_tipsAt 8 = .ok (.getfield 110, 3) := by decide +kernel
theorem dX12_tipsAt_11 : decode cX12_tipsAt 11 = .ok (.bipush 18, 2) := by decide +kernel
theorem dX12_tipsAt_13 : decode cX12_tipsAt 13 = .ok (.iaload, 1) := by decide +kernel
theorem dX12_tipsAt_14 : decode cX12_tipsAt 14 = .ok (.if_icmp .ge 19, 3) := by decide +kernel
theorem dX12_tipsAt_17 : decode cX12_tipsAt 17 = .ok (.aload_n 0, 1) := by decide +kernel
theorem dX12_tipsAt_18 : decode cX12_tipsAt 18 = .ok (.iload_n 1, 1) := by decide +kernel
theorem dX12_tipsAt_19 : decode cX12_tipsAt 19 = .ok (.invokevirtual 340, 3) := by decide +kernel
theorem dX12_tipsAt_22 : decode cX12_tipsAt 22 = .ok (.ifCond .ne 5, 3) := by decide +kernel
theorem dX12_tipsAt_25 : decode cX12_tipsAt 25 = .ok (.iload_n 1, 1) := by decide +kernel
theorem dX12_tipsAt_26 : decode cX12_tipsAt 26 = .ok (.ireturn, 1) := by decide +kernel
theorem dX12_tipsAt_27 : decode cX12_tipsAt 27 = .ok (.iinc 1 1, 3) := by decide +kernel
theorem dX12_tipsAt_30 : decode cX12_tipsAt 30 = .ok (.goto (-24), 3) := by decide +kernel
theorem dX12_tipsAt_33 : decode cX12_tipsAt 33 = .ok (.bipush (-2), 2) := by decide +kernel
theorem dX12_tipsAt_35 : decode cX12_tipsAt 35 = .ok (.ireturn, 1) := by decide +kernel
theorem dX12_book_0 : decode cX12_book 0 = .ok (.aload_n 0, 1) := by decide +kernel
theorem dX12_book_1 : decode cX12_book 1 = .ok (.iload_n 1, 1) := by decide +kernel
theorem dX12_book_2 : decode cX12_book 2 = .ok (.invokevirtual 343, 3) := by decide +kernel
theorem dX12_book_5 : decode cX12_book 5 = .ok (.ifCond .ne 7, 3) := by decide +kernel
theorem dX12_book_8 : decode cX12_book 8 = .ok (.sipush (-10000), 3) := by decide +kernel
theorem dX12_book_11 : decode cX12_book 11 = .ok (.ireturn, 1) := by decide +kernel
theorem dX12_book_12 : decode cX12_book 12 = .ok (.aload_n 0, 1) := by decide +kernel
theorem dX12_book_13 : decode cX12_book 13 = .ok (.invokevirtual 346, 3) := by decide +kernel
theorem dX12_book_16 : decode cX12_book 16 = .ok (.aload_n 0, 1) := by decide +kernel
theorem dX12_book_17 : decode cX12_book 17 = .ok (.iload_n 1, 1) := by decide +kernel
theorem dX12_book_18 : decode cX12_book 18 = .ok (.invokevirtual 349, 3) := by decide +kernel
theorem dX12_book_21 : decode cX12_book 21 = .ok (.istore_n 3, 1) := by decide +kernel
theorem dX12_book_22 : decode cX12_book 22 = .ok (.iload_n 2, 1) := by decide +kernel
theorem dX12_book_23 : decode cX12_book 23 = .ok (.tableswitch 134 0 5 #[37, 52, 67, 94, 96, 116], 37) := by decide +kernel
theorem dX12_book_60 : decode cX12_book 60 = .ok (.aload_n 0, 1) := by decide +kernel
theorem dX12_book_61 : decode cX12_book 61 = .ok (.getfield 46, 3) := by decide +kernel
theorem dX12_book_64 : decode cX12_book 64 = .ok (.bipush 6, 2) := by decide +kernel
theorem dX12_book_66 : decode cX12_book 66 = .ok (.aload_n 0, 1) := by decide +kernel
theorem dX12_book_67 : decode cX12_book 67 = .ok (.getfield 221, 3) := by decide +kernel
theorem dX12_book_70 : decode cX12_book 70 = .ok (.imul, 1) := by decide +kernel
theorem dX12_book_71 : decode cX12_book 71 = .ok (.iload_n 1, 1) := by decide +kernel
theorem dX12_book_72 : decode cX12_book 72 = .ok (.iadd, 1) := by decide +kernel
theorem dX12_book_73 : decode cX12_book 73 = .ok (.iaload, 1) := by decide +kernel
theorem dX12_book_74 : decode cX12_book 74 = .ok (.ireturn, 1) := by decide +kernel
theorem dX12_book_75 : decode cX12_book 75 = .ok (.aload_n 0, 1) := by decide +kernel
theorem dX12_book_76 : decode cX12_book 76 = .ok (.getfield 49, 3) := by decide +kernel
theorem dX12_book_79 : decode cX12_book 79 = .ok (.bipush 6, 2) := by decide +kernel
theorem dX12_book_81 : decode cX12_book 81 = .ok (.aload_n 0, 1) := by decide +kernel
theorem dX12_book_82 : decode cX12_book 82 = .ok (.getfield 221, 3) := by decide +kernel
theorem dX12_book_85 : decode cX12_book 85 = .ok (.imul, 1) := by decide +kernel
theorem dX12_book_86 : decode cX12_book 86 = .ok (.iload_n 1, 1) := by decide +kernel
theorem dX12_book_87 : decode cX12_book 87 = .ok (.iadd, 1) := by decide +kernel
theorem dX12_book_88 : decode cX12_book 88 = .ok (.iaload, 1) := by decide +kernel
theorem dX12_book_89 : decode cX12_book 89 = .ok (.ireturn, 1) := by decide +kernel
theorem dX12_book_90 : decode cX12_book 90 = .ok (.iload_n 3, 1) := by decide +kernel
theorem dX12_book_91 : decode cX12_book 91 = .ok (.ifCond .ge 20, 3) := by decide +kernel
theorem dX12_book_94 : decode cX12_book 94 = .ok (.aload_n 0, 1) := by decide +kernel
theorem dX12_book_95 : decode cX12_book 95 = .ok (.getfield 49, 3) := by decide +kernel
theorem dX12_book_98 : decode cX12_book 98 = .ok (.bipush 6, 2) := by decide +kernel
theorem dX12_book_100 : decode cX12_book 100 = .ok (.aload_n 0, 1) := by decide +kernel
theorem dX12_book_101 : decode cX12_book 101 = .ok (.getfield 221, 3) := by decide +kernel
theorem dX12_book_104 : decode cX12_book 104 = .ok (.imul, 1) := by decide +kernel
theorem dX12_book_105 : decode cX12_book 105 = .ok (.iload_n 1, 1) := by decide +kernel
theorem dX12_book_106 : decode cX12_book 106 = .ok (.iadd, 1) := by decide +kernel
theorem dX12_book_107 : decode cX12_book 107 = .ok (.iaload, 1) := by decide +kernel
theorem dX12_book_108 : decode cX12_book 108 = .ok (.goto 8, 3) := by decide +kernel
theorem dX12_book_111 : decode cX12_book 111 = .ok (.aload_n 0, 1) := by decide +kernel
theorem dX12_book_112 : decode cX12_book 112 = .ok (.iload_n 3, 1) := by decide +kernel
theorem dX12_book_113 : decode cX12_book 113 = .ok (.invokevirtual 314, 3) := by decide +kernel
theorem dX12_book_116 : decode cX12_book 116 = .ok (.ireturn, 1) := by decide +kernel
theorem dX12_book_117 : decode cX12_book 117 = .ok (.iload_n 3, 1) := by decide +kernel
theorem dX12_book_118 : decode cX12_book 118 = .ok (.ireturn, 1) := by decide +kernel
theorem dX12_book_119 : decode cX12_book 119 = .ok (.iload_n 3, 1) := by decide +kernel
theorem dX12_book_120 : decode cX12_book 120 = .ok (.ifCond .ge 9, 3) := by decide +kernel
theorem dX12_book_123 : decode cX12_book 123 = .ok (.sipush (-1000), 3) := by decide +kernel
theorem dX12_book_126 : decode cX12_book 126 = .ok (.goto 12, 3) := by decide +kernel
theorem dX12_book_129 : decode cX12_book 129 = .ok (.aload_n 0, 1) := by decide +kernel
theorem dX12_book_130 : decode cX12_book 130 = .ok (.getfield 110, 3) := by decide +kernel
theorem dX12_book_133 : decode cX12_book 133 = .ok (.bipush 6, 2) := by decide +kernel
theorem dX12_book_135 : decode cX12_book 135 = .ok (.iload_n 3, 1) := by decide +kernel
theorem dX12_book_136 : decode cX12_book 136 = .ok (.iadd, 1) := by decide +kernel
theorem dX12_book_137 : decode cX12_book 137 = .ok (.iaload, 1) := by decide +kernel
theorem dX12_book_138 : decode cX12_book 138 = .ok (.ireturn, 1) := by decide +kernel
theorem dX12_book_139 : decode cX12_book 139 = .ok (.iload_n 3, 1) := by decide +kernel
theorem dX12_book_140 : decode cX12_book 140 = .ok (.ifCond .ge 7, 3) := by decide +kernel
theorem dX12_book_143 : decode cX12_book 143 = .ok (.iconst 0, 1) := by decide +kernel
theorem dX12_book_144 : decode cX12_book 144 = .ok (.goto 12, 3) := by decide +kernel
theorem dX12_book_147 : decode cX12_book 147 = .ok (.aload_n 0, 1) := by decide +kernel
theorem dX12_book_148 : decode cX12_book 148 = .ok (.getfield 110, 3) := by decide +kernel
theorem dX12_book_151 : decode cX12_book 151 = .ok (.bipush 12, 2) := by decide +kernel
theorem dX12_book_153 : decode cX12_book 153 = .ok (.iload_n 3, 1) := by decide +kernel
theorem dX12_book_154 : decode cX12_book 154 = .ok (.iadd, 1) := by decide +kernel
theorem dX12_book_155 : decode cX12_book 155 = .ok (.iaload, 1) := by decide +kernel
theorem dX12_book_156 : decode cX12_book 156 = .ok (.ireturn, 1) := by decide +kernel
theorem dX12_book_157 : decode cX12_book 157 = .ok (.sipush (-10000), 3) := by decide +kernel
theorem dX12_book_160 : decode cX12_book 160 = .ok (.ireturn, 1) := by decide +kernel
theorem dX12_level_0 : decode cX12_level 0 = .ok (.aload_n 0, 1) := by decide +kernel
theorem dX12_level_1 : decode cX12_level 1 = .ok (.iload_n 1, 1) := by decide +kernel
theorem dX12_level_2 : decode cX12_level 2 = .ok (.invokevirtual 352, 3) := by decide +kernel
theorem dX12_level_5 : decode cX12_level 5 = .ok (.ifCond .eq 12, 3) := by decide +kernel
theorem dX12_level_8 : decode cX12_level 8 = .ok (.aload_n 0, 1) := by decide +kernel
theorem dX12_level_9 : decode cX12_level 9 = .ok (.getfield 107, 3) := by decide +kernel
theorem dX12_level_12 : decode cX12_level 12 = .ok (.iload_n 1, 1) := by decide +kernel
theorem dX12_level_13 : decode cX12_level 13 = .ok (.iaload, 1) := by decide +kernel
theorem dX12_level_14 : decode cX12_level 14 = .ok (.goto 4, 3) := by decide +kernel
theorem dX12_level_17 : decode cX12_level 17 = .ok (.iconst (-1), 1) := by decide +kernel
theorem dX12_level_18 : decode cX12_level 18 = .ok (.ireturn, 1) := by decide +kernel
theorem dX12_load_0 : decode cX12_load 0 = .ok (.aload_n 0, 1) := by decide +kernel
theorem dX12_load_1 : decode cX12_load 1 = .ok (.iload_n 1, 1) := by decide +kernel
theorem dX12_load_2 : decode cX12_load 2 = .ok (.invokevirtual 352, 3) := by decide +kernel
theorem dX12_load_5 : decode cX12_load 5 = .ok (.ifCond .ne 5, 3) := by decide +kernel
theorem dX12_load_8 : decode cX12_load 8 = .ok (.iconst (-1), 1) := by decide +kernel
theorem dX12_load_9 : decode cX12_load 9 = .ok (.ireturn, 1) := by decide +kernel
theorem dX12_load_10 : decode cX12_load 10 = .ok (.aload_n 0, 1) := by decide +kernel
theorem dX12_load_11 : decode cX12_load 11 = .ok (.invokevirtual 346, 3) := by decide +kernel
theorem dX12_load_14 : decode cX12_load 14 = .ok (.aload_n 0, 1) := by decide +kernel
theorem dX12_load_15 : decode cX12_load 15 = .ok (.invokevirtual 337, 3) := by decide +kernel
theorem dX12_load_18 : decode cX12_load 18 = .ok (.aload_n 0, 1) := by decide +kernel
theorem dX12_load_19 : decode cX12_load 19 = .ok (.getfield 116, 3) := by decide +kernel
theorem dX12_load_22 : decode cX12_load 22 = .ok (.iload_n 1, 1) := by decide +kernel
theorem dX12_load_23 : decode cX12_load 23 = .ok (.laload, 1) := by decide +kernel
theorem dX12_load_24 : decode cX12_load 24 = .ok (.l2i, 1) := by decide +kernel
theorem dX12_load_25 : decode cX12_load 25 = .ok (.ireturn, 1) := by decide +kernel
theorem dX12_common_0 : decode cX12_common 0 = .ok (.lload_n 0, 1) := by decide +kernel
theorem dX12_common_1 : decode cX12_common 1 = .ok (.lconst 0, 1) := by decide +kernel
theorem dX12_common_2 : decode cX12_common 2 = .ok (.lcmp, 1) := by decide +kernel
theorem dX12_common_3 : decode cX12_common 3 = .ok (.ifCond .ge 8, 3) := by decide +kernel
theorem dX12_common_6 : decode cX12_common 6 = .ok (.lload_n 0, 1) := by decide +kernel
theorem dX12_common_7 : decode cX12_common 7 = .ok (.lneg, 1) := by decide +kernel
theorem dX12_common_8 : decode cX12_common 8 = .ok (.goto 4, 3) := by decide +kernel
theorem dX12_common_11 : decode cX12_common 11 = .ok (.lload_n 0, 1) := by decide +kernel
theorem dX12_common_12 : decode cX12_common 12 = .ok (.lstore 4, 2) := by decide +kernel
theorem dX12_common_14 : decode cX12_common 14 = .ok (.lload_n 2, 1) := by decide +kernel
theorem dX12_common_15 : decode cX12_common 15 = .ok (.lstore 6, 2) := by decide +kernel
theorem dX12_common_17 : decode cX12_common 17 = .ok (.lload 6, 2) := by decide +kernel
theorem dX12_common_19 : decode cX12_common 19 = .ok (.lconst 0, 1) := by decide +kernel
theorem dX12_common_20 : decode cX12_common 20 = .ok (.lcmp, 1) := by decide +kernel
theorem dX12_common_21 : decode cX12_common 21 = .ok (.ifCond .eq 21, 3) := by decide +kernel
theorem dX12_common_24 : decode cX12_common 24 = .ok (.lload 4, 2) := by decide +kernel
theorem dX12_common_26 : decode cX12_common 26 = .ok (.lload 6, 2) := by decide +kernel
theorem dX12_common_28 : decode cX12_common 28 = .ok (.lrem, 1) := by decide +kernel
theorem dX12_common_29 : decode cX12_common 29 = .ok (.lstore 8, 2) := by decide +kernel
theorem dX12_common_31 : decode cX12_common 31 = .ok (.lload 6, 2) := by decide +kernel
theorem dX12_common_33 : decode cX12_common 33 = .ok (.lstore 4, 2) := by decide +kernel
theorem dX12_common_35 : decode cX12_common 35 = .ok (.lload 8, 2) := by decide +kernel
theorem dX12_common_37 : decode cX12_common 37 = .ok (.lstore 6, 2) := by decide +kernel
theorem dX12_common_39 : decode cX12_common 39 = .ok (.goto (-22), 3) := by decide +kernel
theorem dX12_common_42 : decode cX12_common 42 = .ok (.lload 4, 2) := by decide +kernel
theorem dX12_common_44 : decode cX12_common 44 = .ok (.lreturn, 1) := by decide +kernel
theorem dX12_point_0 : decode cX12_point 0 = .ok (.aload_n 0, 1) := by decide +kernel
theorem dX12_point_1 : decode cX12_point 1 = .ok (.iload_n 1, 1) := by decide +kernel
theorem dX12_point_2 : decode cX12_point 2 = .ok (.invokevirtual 352, 3) := by decide +kernel
theorem dX12_point_5 : decode cX12_point 5 = .ok (.ifCond .ne 7, 3) := by decide +kernel
theorem dX12_point_8 : decode cX12_point 8 = .ok (.ldc2_w 355, 3) := by decide +kernel
theorem dX12_point_11 : decode cX12_point 11 = .ok (.lreturn, 1) := by decide +kernel
theorem dX12_point_12 : decode cX12_point 12 = .ok (.aload_n 0, 1) := by decide +kernel
theorem dX12_point_13 : decode cX12_point 13 = .ok (.invokevirtual 346, 3) := by decide +kernel
theorem dX12_point_16 : decode cX12_point 16 = .ok (.aload_n 0, 1) := by decide +kernel
theorem dX12_point_17 : decode cX12_point 17 = .ok (.invokevirtual 337, 3) := by decide +kernel
theorem dX12_point_20 : decode cX12_point 20 = .ok (.ldc2_w 320, 3) := by decide +kernel
theorem dX12_point_23 : decode cX12_point 23 = .ok (.aload_n 0, 1) := by decide +kernel
theorem dX12_point_24 : decode cX12_point 24 = .ok (.getfield 116, 3) := by decide +kernel
theorem dX12_point_27 : decode cX12_point 27 = .ok (.iload_n 1, 1) := by decide +kernel
theorem dX12_point_28 : decode cX12_point 28 = .ok (.laload, 1) := by decide +kernel
theorem dX12_point_29 : decode cX12_point 29 = .ok (.lmul, 1) := by decide +kernel
theorem dX12_point_30 : decode cX12_point 30 = .ok (.lstore_n 3, 1) := by decide +kernel
theorem dX12_point_31 : decode cX12_point 31 = .ok (.aload_n 0, 1) := by decide +kernel
theorem dX12_point_32 : decode cX12_point 32 = .ok (.getfield 119, 3) := by decide +kernel
theorem dX12_point_35 : decode cX12_point 35 = .ok (.iload_n 1, 1) := by decide +kernel
theorem dX12_point_36 : decode cX12_point 36 = .ok (.laload, 1) := by decide +kernel
theorem dX12_point_37 : decode cX12_point 37 = .ok (.lload_n 3, 1) := by decide +kernel
theorem dX12_point_38 : decode cX12_point 38 = .ok (.invokestatic 357, 3) := by decide +kernel
theorem dX12_point_41 : decode cX12_point 41 = .ok (.lstore 5, 2) := by decide +kernel
theorem dX12_point_43 : decode cX12_point 43 = .ok (.iload_n 2, 1) := by decide +kernel
theorem dX12_point_44 : decode cX12_point 44 = .ok (.ifCond .eq 10, 3) := by decide +kernel
theorem dX12_point_47 : decode cX12_point 47 = .ok (.lload_n 3, 1) := by decide +kernel
theorem dX12_point_48 : decode cX12_point 48 = .ok (.lload 5, 2) := by decide +kernel
theorem dX12_point_50 : decode cX12_point 50 = .ok (.ldiv, 1) := by decide +kernel
theorem dX12_point_51 : decode cX12_point 51 = .ok (.goto 12, 3) := by decide +kernel
theorem dX12_point_54 : decode cX12_point 54 = .ok (.aload_n 0, 1) := by decide +kernel
theorem dX12_point_55 : decode cX12_point 55 = .ok (.getfield 119, 3) := by decide +kernel
theorem dX12_point_58 : decode cX12_point 58 = .ok (.iload_n 1, 1) := by decide +kernel
theorem dX12_point_59 : decode cX12_point 59 = .ok (.laload, 1) := by decide +kernel
theorem dX12_point_60 : decode cX12_point 60 = .ok (.lload 5, 2) := by decide +kernel
theorem dX12_point_62 : decode cX12_point 62 = .ok (.ldiv, 1) := by decide +kernel
theorem dX12_point_63 : decode cX12_point 63 = .ok (.lreturn, 1) := by decide +kernel
theorem dX12_stands_0 : decode cX12_stands 0 = .ok (.aload_n 0, 1) := by decide +kernel
theorem dX12_stands_1 : decode cX12_stands 1 = .ok (.invokevirtual 346, 3) := by decide +kernel
theorem dX12_stands_4 : decode cX12_stands 4 = .ok (.aload_n 0, 1) := by decide +kernel
theorem dX12_stands_5 : decode cX12_stands 5 = .ok (.invokevirtual 361, 3) := by decide +kernel
theorem dX12_stands_8 : decode cX12_stands 8 = .ok (.ifCond .ge 7, 3) := by decide +kernel
theorem dX12_stands_11 : decode cX12_stands 11 = .ok (.iconst 1, 1) := by decide +kernel
theorem dX12_stands_12 : decode cX12_stands 12 = .ok (.goto 4, 3) := by decide +kernel
theorem dX12_stands_15 : decode cX12_stands 15 = .ok (.iconst 0, 1) := by decide +kernel
theorem dX12_stands_16 : decode cX12_stands 16 = .ok (.ireturn, 1) := by decide +kernel
theorem dX12_tips_0 : decode cX12_tips 0 = .ok (.iload_n 1, 1) := by decide +kernel
theorem dX12_tips_1 : decode cX12_tips 1 = .ok (.iconst 0, 1) := by decide +kernel
theorem dX12_tips_2 : decode cX12_tips 2 = .ok (.iconst 1, 1) := by decide +kernel
theorem dX12_tips_3 : decode cX12_tips 3 = .ok (.invokestatic 298, 3) := by decide +kernel
theorem dX12_tips_6 : decode cX12_tips 6 = .ok (.ifCond .ne 5, 3) := by decide +kernel
theorem dX12_tips_9 : decode cX12_tips 9 = .ok (.iconst (-1), 1) := by decide +kernel
theorem dX12_tips_10 : decode cX12_tips 10 = .ok (.ireturn, 1) := by decide +kernel
theorem dX12_tips_11 : decode cX12_tips 11 = .ok (.aload_n 0, 1) := by decide +kernel
theorem dX12_tips_12 : decode cX12_tips 12 = .ok (.invokevirtual 346, 3) := by decide +kernel
theorem dX12_tips_15 : decode cX12_tips 15 = .ok (.aload_n 0, 1) := by decide +kernel
theorem dX12_tips_16 : decode cX12_tips 16 = .ok (.invokevirtual 361, 3) := by decide +kernel
theorem dX12_tips_19 : decode cX12_tips 19 = .ok (.istore_n 2, 1) := by decide +kernel
theorem dX12_tips_20 : decode cX12_tips 20 = .ok (.iload_n 2, 1) := by decide +kernel
theorem dX12_tips_21 : decode cX12_tips 21 = .ok (.ifCond .lt 7, 3) := by decide +kernel
theorem dX12_tips_24 : decode cX12_tips 24 = .ok (.iload_n 1, 1) := by decide +kernel
theorem dX12_tips_25 : decode cX12_tips 25 = .ok (.ifCond .ne 5, 3) := by decide +kernel
theorem dX12_tips_28 : decode cX12_tips 28 = .ok (.iload_n 2, 1) := by decide +kernel
theorem dX12_tips_29 : decode cX12_tips 29 = .ok (.ireturn, 1) := by decide +kernel
theorem dX12_tips_30 : decode cX12_tips 30 = .ok (.aload_n 0, 1) := by decide +kernel
theorem dX12_tips_31 : decode cX12_tips 31 = .ok (.iload_n 2, 1) := by decide +kernel
theorem dX12_tips_32 : decode cX12_tips 32 = .ok (.invokevirtual 331, 3) := by decide +kernel
theorem dX12_tips_35 : decode cX12_tips 35 = .ok (.aload_n 0, 1) := by decide +kernel
theorem dX12_tips_36 : decode cX12_tips 36 = .ok (.iload_n 2, 1) := by decide +kernel
theorem dX12_tips_37 : decode cX12_tips 37 = .ok (.invokevirtual 334, 3) := by decide +kernel
theorem dX12_tips_40 : decode cX12_tips 40 = .ok (.if_icmp .gt 36, 3) := by decide +kernel
theorem dX12_tips_43 : decode cX12_tips 43 = .ok (.aload_n 0, 1) := by decide +kernel
theorem dX12_tips_44 : decode cX12_tips 44 = .ok (.getfield 119, 3) := by decide +kernel
theorem dX12_tips_47 : decode cX12_tips 47 = .ok (.iload_n 2, 1) := by decide +kernel
theorem dX12_tips_48 : decode cX12_tips 48 = .ok (.laload, 1) := by decide +kernel
theorem dX12_tips_49 : decode cX12_tips 49 = .ok (.ldc2_w 320, 3) := by decide +kernel
theorem dX12_tips_52 : decode cX12_tips 52 = .ok (.aload_n 0, 1) := by decide +kernel
theorem dX12_tips_53 : decode cX12_tips 53 = .ok (.getfield 116, 3) := by decide +kernel
theorem dX12_tips_56 : decode cX12_tips 56 = .ok (.iload_n 2, 1) := by decide +kernel
theorem dX12_tips_57 : decode cX12_tips 57 = .ok (.laload, 1) := by decide +kernel
theorem dX12_tips_58 : decode cX12_tips 58 = .ok (.lmul, 1) := by decide +kernel
theorem dX12_tips_59 : decode cX12_tips 59 = .ok (.aload_n 0, 1) := by decide +kernel
theorem dX12_tips_60 : decode cX12_tips 60 = .ok (.iload_n 2, 1) := by decide +kernel
theorem dX12_tips_61 : decode cX12_tips 61 = .ok (.invokevirtual 334, 3) := by decide +kernel
theorem dX12_tips_64 : decode cX12_tips 64 = .ok (.i2l, 1) := by decide +kernel
theorem dX12_tips_65 : decode cX12_tips 65 = .ok (.lmul, 1) := by decide +kernel
theorem dX12_tips_66 : decode cX12_tips 66 = .ok (.lcmp, 1) := by decide +kernel
theorem dX12_tips_67 : decode cX12_tips 67 = .ok (.ifCond .le 7, 3) := by decide +kernel
theorem dX12_tips_70 : decode cX12_tips 70 = .ok (.iconst 1, 1) := by decide +kernel
theorem dX12_tips_71 : decode cX12_tips 71 = .ok (.goto 4, 3) := by decide +kernel
theorem dX12_tips_74 : decode cX12_tips 74 = .ok (.iconst 0, 1) := by decide +kernel
theorem dX12_tips_75 : decode cX12_tips 75 = .ok (.ireturn, 1) := by decide +kernel
theorem dX12_tips_76 : decode cX12_tips 76 = .ok (.aload_n 0, 1) := by decide +kernel
theorem dX12_tips_77 : decode cX12_tips 77 = .ok (.getfield 110, 3) := by decide +kernel
theorem dX12_tips_80 : decode cX12_tips 80 = .ok (.bipush 6, 2) := by decide +kernel
theorem dX12_tips_82 : decode cX12_tips 82 = .ok (.iload_n 2, 1) := by decide +kernel
theorem dX12_tips_83 : decode cX12_tips 83 = .ok (.iadd, 1) := by decide +kernel
theorem dX12_tips_84 : decode cX12_tips 84 = .ok (.iaload, 1) := by decide +kernel
theorem dX12_tips_85 : decode cX12_tips 85 = .ok (.aload_n 0, 1) := by decide +kernel
theorem dX12_tips_86 : decode cX12_tips 86 = .ok (.iload_n 2, 1) := by decide +kernel
theorem dX12_tips_87 : decode cX12_tips 87 = .ok (.invokevirtual 328, 3) := by decide +kernel
theorem dX12_tips_90 : decode cX12_tips 90 = .ok (.if_icmp .le 7, 3) := by decide +kernel
theorem dX12_tips_93 : decode cX12_tips 93 = .ok (.iconst 1, 1) := by decide +kernel
theorem dX12_tips_94 : decode cX12_tips 94 = .ok (.goto 4, 3) := by decide +kernel
theorem dX12_tips_97 : decode cX12_tips 97 = .ok (.iconst 0, 1) := by decide +kernel
theorem dX12_tips_98 : decode cX12_tips 98 = .ok (.ireturn, 1) := by decide +kernel
