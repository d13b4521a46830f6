theorem dX11_loadAll_16 : decode cX11_loadAll 16 = .ok (.ishr, 1) := by decide +kernel
theorem dX11_loadAll_17 : decode cX11_loadAll 17 = .ok (.iconst 1, 1) := by decide +kernel
theorem dX11_loadAll_18 : decode cX11_loadAll 18 = .ok (.iand, 1) := by decide +kernel
theorem dX11_loadAll_19 : decode cX11_loadAll 19 = .ok (.iconst 1, 1) := by decide +kernel
theorem dX11_loadAll_20 : decode cX11_loadAll 20 = .ok (.if_icmp .ne 26, 3) := by decide +kernel
theorem dX11_loadAll_23 : decode cX11_loadAll 23 = .ok (.aload_n 0, 1) := by decide +kernel
theorem dX11_loadAll_24 : decode cX11_loadAll 24 = .ok (.getfield 14, 3) := by decide +kernel
theorem dX11_loadAll_27 : decode cX11_loadAll 27 = .ok (.iload_n 3, 1) := by decide +kernel
theorem dX11_loadAll_28 : decode cX11_loadAll 28 = .ok (.iload 6, 2) := by decide +kernel
theorem dX11_loadAll_30 : decode cX11_loadAll 30 = .ok (.invokestatic 42, 3) := by decide +kernel
theorem dX11_loadAll_33 : decode cX11_loadAll 33 = .ok (.aload_n 0, 1) := by decide +kernel
theorem dX11_loadAll_34 : decode cX11_loadAll 34 = .ok (.getfield 8, 3) := by decide +kernel
theorem dX11_loadAll_37 : decode cX11_loadAll 37 = .ok (.iload 5, 2) := by decide +kernel
theorem dX11_loadAll_39 : decode cX11_loadAll 39 = .ok (.iconst 4, 1) := by decide +kernel
theorem dX11_loadAll_40 : decode cX11_loadAll 40 = .ok (.idiv, 1) := by decide +kernel
theorem dX11_loadAll_41 : decode cX11_loadAll 41 = .ok (.iaload, 1) := by decide +kernel
theorem dX11_loadAll_42 : decode cX11_loadAll 42 = .ok (.iastore, 1) := by decide +kernel
theorem dX11_loadAll_43 : decode cX11_loadAll 43 = .ok (.iinc 5 4, 3) := by decide +kernel
theorem dX11_loadAll_46 : decode cX11_loadAll 46 = .ok (.iinc 6 1, 3) := by decide +kernel
theorem dX11_loadAll_49 : decode cX11_loadAll 49 = .ok (.goto (-43), 3) := by decide +kernel
theorem dX11_loadAll_52 : decode cX11_loadAll 52 = .ok (.iload_n 2, 1) := by decide +kernel
theorem dX11_loadAll_53 : decode cX11_loadAll 53 = .ok (.bipush 15, 2) := by decide +kernel
theorem dX11_loadAll_55 : decode cX11_loadAll 55 = .ok (.ishr, 1) := by decide +kernel
theorem dX11_loadAll_56 : decode cX11_loadAll 56 = .ok (.iconst 1, 1) := by decide +kernel
theorem dX11_loadAll_57 : decode cX11_loadAll 57 = .ok (.iand, 1) := by decide +kernel
theorem dX11_loadAll_58 : decode cX11_loadAll 58 = .ok (.iconst 1, 1) := by decide +kernel
theorem dX11_loadAll_59 : decode cX11_loadAll 59 = .ok (.if_icmp .ne 38, 3) := by decide +kernel
theorem dX11_loadAll_62 : decode cX11_loadAll 62 = .ok (.iload 4, 2) := by decide +kernel
theorem dX11_loadAll_64 : decode cX11_loadAll 64 = .ok (.ifCond .eq 18, 3) := by decide +kernel
theorem dX11_loadAll_67 : decode cX11_loadAll 67 = .ok (.aload_n 0, 1) := by decide +kernel
theorem dX11_loadAll_68 : decode cX11_loadAll 68 = .ok (.invokevirtual 67, 3) := by decide +kernel
theorem dX11_loadAll_71 : decode cX11_loadAll 71 = .ok (.ifCond .eq 11, 3) := by decide +kernel
theorem dX11_loadAll_74 : decode cX11_loadAll 74 = .ok (.aload_n 0, 1) := by decide +kernel
theorem dX11_loadAll_75 : decode cX11_loadAll 75 = .ok (.aload_n 0, 1) := by decide +kernel
theorem dX11_loadAll_76 : decode cX11_loadAll 76 = .ok (.invokevirtual 181, 3) := by decide +kernel
theorem dX11_loadAll_79 : decode cX11_loadAll 79 = .ok (.invokevirtual 85, 3) := by decide +kernel
theorem dX11_loadAll_82 : decode cX11_loadAll 82 = .ok (.aload_n 0, 1) := by decide +kernel
theorem dX11_loadAll_83 : decode cX11_loadAll 83 = .ok (.bipush 15, 2) := by decide +kernel
theorem dX11_loadAll_85 : decode cX11_loadAll 85 = .ok (.aload_n 0, 1) := by decide +kernel
theorem dX11_loadAll_86 : decode cX11_loadAll 86 = .ok (.getfield 8, 3) := by decide +kernel
theorem dX11_loadAll_89 : decode cX11_loadAll 89 = .ok (.iload 5, 2) := by decide +kernel
theorem dX11_loadAll_91 : decode cX11_loadAll 91 = .ok (.iconst 4, 1) := by decide +kernel
theorem dX11_loadAll_92 : decode cX11_loadAll 92 = .ok (.idiv, 1) := by decide +kernel
theorem dX11_loadAll_93 : decode cX11_loadAll 93 = .ok (.iaload, 1) := by decide +kernel
theorem dX11_loadAll_94 : decode cX11_loadAll 94 = .ok (.invokevirtual 135, 3) := by decide +kernel
theorem dX11_loadAll_97 : decode cX11_loadAll 97 = .ok (.return_, 1) := by decide +kernel
theorem dX11_thumb_0 : decode cX11_thumb 0 = .ok (.iload_n 1, 1) := by decide +kernel
theorem dX11_thumb_1 : decode cX11_thumb 1 = .ok (.bipush 12, 2) := by decide +kernel
theorem dX11_thumb_3 : decode cX11_thumb 3 = .ok (.ishr, 1) := by decide +kernel
theorem dX11_thumb_4 : decode cX11_thumb 4 = .ok (.istore_n 2, 1) := by decide +kernel
theorem dX11_thumb_5 : decode cX11_thumb 5 = .ok (.iload_n 1, 1) := by decide +kernel
theorem dX11_thumb_6 : decode cX11_thumb 6 = .ok (.bipush 7, 2) := by decide +kernel
theorem dX11_thumb_8 : decode cX11_thumb 8 = .ok (.iand, 1) := by decide +kernel
theorem dX11_thumb_9 : decode cX11_thumb 9 = .ok (.istore_n 3, 1) := by decide +kernel
theorem dX11_thumb_10 : decode cX11_thumb 10 = .ok (.iload_n 1, 1) := by decide +kernel
theorem dX11_thumb_11 : decode cX11_thumb 11 = .ok (.iconst 3, 1) := by decide +kernel
theorem dX11_thumb_12 : decode cX11_thumb 12 = .ok (.ishr, 1) := by decide +kernel
theorem dX11_thumb_13 : decode cX11_thumb 13 = .ok (.bipush 7, 2) := by decide +kernel
theorem dX11_thumb_15 : decode cX11_thumb 15 = .ok (.iand, 1) := by decide +kernel
theorem dX11_thumb_16 : decode cX11_thumb 16 = .ok (.istore 4, 2) := by decide +kernel
theorem dX11_thumb_18 : decode cX11_thumb 18 = .ok (.iload_n 1, 1) := by decide +kernel
theorem dX11_thumb_19 : decode cX11_thumb 19 = .ok (.bipush 6, 2) := by decide +kernel
theorem dX11_thumb_21 : decode cX11_thumb 21 = .ok (.ishr, 1) := by decide +kernel
theorem dX11_thumb_22 : decode cX11_thumb 22 = .ok (.bipush 7, 2) := by decide +kernel
theorem dX11_thumb_24 : decode cX11_thumb 24 = .ok (.iand, 1) := by decide +kernel
theorem dX11_thumb_25 : decode cX11_thumb 25 = .ok (.istore 5, 2) := by decide +kernel
theorem dX11_thumb_27 : decode cX11_thumb 27 = .ok (.iload_n 1, 1) := by decide +kernel
theorem dX11_thumb_28 : decode cX11_thumb 28 = .ok (.bipush 6, 2) := by decide +kernel
theorem dX11_thumb_30 : decode cX11_thumb 30 = .ok (.ishr, 1) := by decide +kernel
theorem dX11_thumb_31 : decode cX11_thumb 31 = .ok (.bipush 31, 2) := by decide +kernel
theorem dX11_thumb_33 : decode cX11_thumb 33 = .ok (.iand, 1) := by decide +kernel
theorem dX11_thumb_34 : decode cX11_thumb 34 = .ok (.istore 6, 2) := by decide +kernel
theorem dX11_thumb_36 : decode cX11_thumb 36 = .ok (.iload_n 1, 1) := by decide +kernel
theorem dX11_thumb_37 : decode cX11_thumb 37 = .ok (.bipush 8, 2) := by decide +kernel
theorem dX11_thumb_39 : decode cX11_thumb 39 = .ok (.ishr, 1) := by decide +kernel
theorem dX11_thumb_40 : decode cX11_thumb 40 = .ok (.bipush 7, 2) := by decide +kernel
theorem dX11_thumb_42 : decode cX11_thumb 42 = .ok (.iand, 1) := by decide +kernel
theorem dX11_thumb_43 : decode cX11_thumb 43 = .ok (.istore 7, 2) := by decide +kernel
theorem dX11_thumb_45 : decode cX11_thumb 45 = .ok (.iload_n 1, 1) := by decide +kernel
theorem dX11_thumb_46 : decode cX11_thumb 46 = .ok (.sipush 255, 3) := by decide +kernel
theorem dX11_thumb_49 : decode cX11_thumb 49 = .ok (.iand, 1) := by decide +kernel
theorem dX11_thumb_50 : decode cX11_thumb 50 = .ok (.istore 8, 2) := by decide +kernel
theorem dX11_thumb_52 : decode cX11_thumb 52 = .ok (.iload_n 1, 1) := by decide +kernel
theorem dX11_thumb_53 : decode cX11_thumb 53 = .ok (.bipush 11, 2) := by decide +kernel
theorem dX11_thumb_55 : decode cX11_thumb 55 = .ok (.ishr, 1) := by decide +kernel
theorem dX11_thumb_56 : decode cX11_thumb 56 = .ok (.iconst 1, 1) := by decide +kernel
theorem dX11_thumb_57 : decode cX11_thumb 57 = .ok (.iand, 1) := by decide +kernel
theorem dX11_thumb_58 : decode cX11_thumb 58 = .ok (.iconst 1, 1) := by decide +kernel
theorem dX11_thumb_59 : decode cX11_thumb 59 = .ok (.if_icmp .ne 7, 3) := by decide +kernel
theorem dX11_thumb_62 : decode cX11_thumb 62 = .ok (.iconst 1, 1) := by decide +kernel
theorem dX11_thumb_63 : decode cX11_thumb 63 = .ok (.goto 4, 3) := by decide +kernel
theorem dX11_thumb_66 : decode cX11_thumb 66 = .ok (.iconst 0, 1) := by decide +kernel
theorem dX11_thumb_67 : decode cX11_thumb 67 = .ok (.istore 9, 2) := by decide +kernel
theorem dX11_thumb_69 : decode cX11_thumb 69 = .ok (.iload_n 2, 1) := by decide +kernel
theorem dX11_thumb_70 : decode cX11_thumb 70 = .ok (.iconst 2, 1) := by decide +kernel
theorem dX11_thumb_71 : decode cX11_thumb 71 = .ok (.if_icmp .ge 18, 3) := by decide +kernel
theorem dX11_thumb_74 : decode cX11_thumb 74 = .ok (.aload_n 0, 1) := by decide +kernel
theorem dX11_thumb_75 : decode cX11_thumb 75 = .ok (.iload_n 1, 1) := by decide +kernel
theorem dX11_thumb_76 : decode cX11_thumb 76 = .ok (.iload_n 3, 1) := by decide +kernel
theorem dX11_thumb_77 : decode cX11_thumb 77 = .ok (.iload 4, 2) := by decide +kernel
theorem dX11_thumb_79 : decode cX11_thumb 79 = .ok (.iload 5, 2) := by decide +kernel
theorem dX11_thumb_81 : decode cX11_thumb 81 = .ok (.iload 6, 2) := by decide +kernel
theorem dX11_thumb_83 : decode cX11_thumb 83 = .ok (.invokevirtual 245, 3) := by decide +kernel
theorem dX11_thumb_86 : decode cX11_thumb 86 = .ok (.goto 356, 3) := by decide +kernel
theorem dX11_thumb_89 : decode cX11_thumb 89 = .ok (.iload_n 2, 1) := by decide +kernel
theorem dX11_thumb_90 : decode cX11_thumb 90 = .ok (.iconst 4, 1) := by decide +kernel
theorem dX11_thumb_91 : decode cX11_thumb 91 = .ok (.if_icmp .ge 20, 3) := by decide +kernel
theorem dX11_thumb_94 : decode cX11_thumb 94 = .ok (.aload_n 0, 1) := by decide +kernel
theorem dX11_thumb_95 : decode cX11_thumb 95 = .ok (.iload_n 1, 1) := by decide +kernel
theorem dX11_thumb_96 : decode cX11_thumb 96 = .ok (.bipush 11, 2) := by decide +kernel
theorem dX11_thumb_98 : decode cX11_thumb 98 = .ok (.ishr, 1) := by decide +kernel
theorem dX11_thumb_99 : decode cX11_thumb 99 = .ok (.iconst 3, 1) := by decide +kernel
theorem dX11_thumb_100 : decode cX11_thumb 100 = .ok (.iand, 1) := by decide +kernel
theorem dX11_thumb_101 : decode cX11_thumb 101 = .ok (.iload 7, 2) := by decide +kernel
theorem dX11_thumb_103 : decode cX11_thumb 103 = .ok (.iload 8, 2) := by decide +kernel
theorem dX11_thumb_105 : decode cX11_thumb 105 = .ok (.invokevirtual 249, 3) := by decide +kernel
theorem dX11_thumb_108 : decode cX11_thumb 108 = .ok (.goto 334, 3) := by decide +kernel
theorem dX11_thumb_111 : decode cX11_thumb 111 = .ok (.iload_n 1, 1) := by decide +kernel
theorem dX11_thumb_112 : decode cX11_thumb 112 = .ok (.bipush 10, 2) := by decide +kernel
theorem dX11_thumb_114 : decode cX11_thumb 114 = .ok (.ishr, 1) := by decide +kernel
theorem dX11_thumb_115 : decode cX11_thumb 115 = .ok (.bipush 16, 2) := by decide +kernel
theorem dX11_thumb_117 : decode cX11_thumb 117 = .ok (.if_icmp .ne 20, 3) := by decide +kernel
theorem dX11_thumb_120 : decode cX11_thumb 120 = .ok (.aload_n 0, 1) := by decide +kernel
theorem dX11_thumb_121 : decode cX11_thumb 121 = .ok (.iload_n 1, 1) := by decide +kernel
theorem dX11_thumb_122 : decode cX11_thumb 122 = .ok (.bipush 6, 2) := by decide +kernel
theorem dX11_thumb_124 : decode cX11_thumb 124 = .ok (.ishr, 1) := by decide +kernel
theorem dX11_thumb_125 : decode cX11_thumb 125 = .ok (.bipush 15, 2) := by decide +kernel
theorem dX11_thumb_127 : decode cX11_thumb 127 = .ok (.iand, 1) := by decide +kernel
theorem dX11_thumb_128 : decode cX11_thumb 128 = .ok (.iload_n 3, 1) := by decide +kernel
theorem dX11_thumb_129 : decode cX11_thumb 129 = .ok (.iload 4, 2) := by decide +kernel
theorem dX11_thumb_131 : decode cX11_thumb 131 = .ok (.invokevirtual 252, 3) := by decide +kernel
theorem dX11_thumb_134 : decode cX11_thumb 134 = .ok (.goto 308, 3) := by decide +kernel
theorem dX11_thumb_137 : decode cX11_thumb 137 = .ok (.iload_n 1, 1) := by decide +kernel
theorem dX11_thumb_138 : decode cX11_thumb 138 = .ok (.bipush 10, 2) := by decide +kernel
theorem dX11_thumb_140 : decode cX11_thumb 140 = .ok (.ishr, 1) := by decide +kernel
theorem dX11_thumb_141 : decode cX11_thumb 141 = .ok (.bipush 17, 2) := by decide +kernel
theorem dX11_thumb_143 : decode cX11_thumb 143 = .ok (.if_icmp .ne 11, 3) := by decide +kernel
theorem dX11_thumb_146 : decode cX11_thumb 146 = .ok (.aload_n 0, 1) := by decide +kernel
theorem dX11_thumb_147 : decode cX11_thumb 147 = .ok (.iload_n 1, 1) := by decide +kernel
theorem dX11_thumb_148 : decode cX11_thumb 148 = .ok (.invokevirtual 255, 3) := by decide +kernel
theorem dX11_thumb_151 : decode cX11_thumb 151 = .ok (.goto 291, 3) := by decide +kernel
theorem dX11_thumb_154 : decode cX11_thumb 154 = .ok (.iload_n 1, 1) := by decide +kernel
theorem dX11_thumb_155 : decode cX11_thumb 155 = .ok (.bipush 11, 2) := by decide +kernel
theorem dX11_thumb_157 : decode cX11_thumb 157 = .ok (.ishr, 1) := by decide +kernel
theorem dX11_thumb_158 : decode cX11_thumb 158 = .ok (.bipush 9, 2) := by decide +kernel
theorem dX11_thumb_160 : decode cX11_thumb 160 = .ok (.if_icmp .ne 30, 3) := by decide +kernel
theorem dX11_thumb_163 : decode cX11_thumb 163 = .ok (.aload_n 0, 1) := by decide +kernel
theorem dX11_thumb_164 : decode cX11_thumb 164 = .ok (.iconst 1, 1) := by decide +kernel
theorem dX11_thumb_165 : decode cX11_thumb 165 = .ok (.iconst 4, 1) := by decide +kernel
theorem dX11_thumb_166 : decode cX11_thumb 166 = .ok (.iload 7, 2) := by decide +kernel
theorem dX11_thumb_168 : decode cX11_thumb 168 = .ok (.aload_n 0, 1) := by decide +kernel
theorem dX11_thumb_169 : decode cX11_thumb 169 = .ok (.getfield 46, 3) := by decide +kernel
theorem dX11_thumb_172 : decode cX11_thumb 172 = .ok (.iconst 4, 1) := by decide +kernel
theorem dX11_thumb_173 : decode cX11_thumb 173 = .ok (.iadd, 1) := by decide +kernel
theorem dX11_thumb_174 : decode cX11_thumb 174 = .ok (.bipush (-4), 2) := by decide +kernel
theorem dX11_thumb_176 : decode cX11_thumb 176 = .ok (.iand, 1) := by decide +kernel
theorem dX11_thumb_177 : decode cX11_thumb 177 = .ok (.iconst 4, 1) := by decide +kernel
theorem dX11_thumb_178 : decode cX11_thumb 178 = .ok (.iload 8, 2) := by decide +kernel
theorem dX11_thumb_180 : decode cX11_thumb 180 = .ok (.imul, 1) := by decide +kernel
theorem dX11_thumb_181 : decode cX11_thumb 181 = .ok (.iadd, 1) := by decide +kernel
theorem dX11_thumb_182 : decode cX11_thumb 182 = .ok (.iconst (-1), 1) := by decide +kernel
theorem dX11_thumb_183 : decode cX11_thumb 183 = .ok (.iconst 0, 1) := by decide +kernel
theorem dX11_thumb_184 : decode cX11_thumb 184 = .ok (.invokevirtual 227, 3) := by decide +kernel
theorem dX11_thumb_187 : decode cX11_thumb 187 = .ok (.goto 255, 3) := by decide +kernel
theorem dX11_thumb_190 : decode cX11_thumb 190 = .ok (.iload_n 2, 1) := by decide +kernel
theorem dX11_thumb_191 : decode cX11_thumb 191 = .ok (.iconst 5, 1) := by decide +kernel
theorem dX11_thumb_192 : decode cX11_thumb 192 = .ok (.if_icmp .ne 31, 3) := by decide +kernel
theorem dX11_thumb_195 : decode cX11_thumb 195 = .ok (.aload_n 0, 1) := by decide +kernel
theorem dX11_thumb_196 : decode cX11_thumb 196 = .ok (.iload_n 1, 1) := by decide +kernel
theorem dX11_thumb_197 : decode cX11_thumb 197 = .ok (.bipush 9, 2) := by decide +kernel
theorem dX11_thumb_199 : decode cX11_thumb 199 = .ok (.ishr, 1) := by decide +kernel
theorem dX11_thumb_200 : decode cX11_thumb 200 = .ok (.bipush 7, 2) := by decide +kernel
theorem dX11_thumb_202 : decode cX11_thumb 202 = .ok (.iand, 1) := by decide +kernel
theorem dX11_thumb_203 : decode cX11_thumb 203 = .ok (.iload_n 3, 1) := by decide +kernel
theorem dX11_thumb_204 : decode cX11_thumb 204 = .ok (.aload_n 0, 1) := by decide +kernel
theorem dX11_thumb_205 : decode cX11_thumb 205 = .ok (.iload 4, 2) := by decide +kernel
theorem dX11_thumb_207 : decode cX11_thumb 207 = .ok (.invokevirtual 49, 3) := by decide +kernel
theorem dX11_thumb_210 : decode cX11_thumb 210 = .ok (.aload_n 0, 1) := by decide +kernel
theorem dX11_thumb_211 : decode cX11_thumb 211 = .ok (.iload 5, 2) := by decide +kernel
theorem dX11_thumb_213 : decode cX11_thumb 213 = .ok (.invokevirtual 49, 3) := by decide +kernel
theorem dX11_thumb_216 : decode cX11_thumb 216 = .ok (.iadd, 1) := by decide +kernel
theorem dX11_thumb_217 : decode cX11_thumb 217 = .ok (.invokevirtual 258, 3) := by decide +kernel
theorem dX11_thumb_220 : decode cX11_thumb 220 = .ok (.goto 222, 3) := by decide +kernel
theorem dX11_thumb_223 : decode cX11_thumb 223 = .ok (.iload_n 2, 1) := by decide +kernel
theorem dX11_thumb_224 : decode cX11_thumb 224 = .ok (.bipush 8, 2) := by decide +kernel
theorem dX11_thumb_226 : decode cX11_thumb 226 = .ok (.if_icmp .ge 48, 3) := by decide +kernel
theorem dX11_thumb_229 : decode cX11_thumb 229 = .ok (.aload_n 0, 1) := by decide +kernel
theorem dX11_thumb_230 : decode cX11_thumb 230 = .ok (.iload 9, 2) := by decide +kernel
theorem dX11_thumb_232 : decode cX11_thumb 232 = .ok (.iload_n 2, 1) := by decide +kernel
theorem dX11_thumb_233 : decode cX11_thumb 233 = .ok (.bipush 6, 2) := by decide +kernel
theorem dX11_thumb_235 : decode cX11_thumb 235 = .ok (.if_icmp .ne 7, 3) := by decide +kernel
theorem dX11_thumb_238 : decode cX11_thumb 238 = .ok (.iconst 4, 1) := by decide +kernel
theorem dX11_thumb_239 : decode cX11_thumb 239 = .ok (.goto 4, 3) := by decide +kernel
theorem dX11_thumb_242 : decode cX11_thumb 242 = .ok (.iconst 1, 1) := by decide +kernel
theorem dX11_thumb_243 : decode cX11_thumb 243 = .ok (.iload_n 3, 1) := by decide +kernel
theorem dX11_thumb_244 : decode cX11_thumb 244 = .ok (.aload_n 0, 1) := by decide +kernel
theorem dX11_thumb_245 : decode cX11_thumb 245 = .ok (.iload 4, 2) := by decide +kernel
theorem dX11_thumb_247 : decode cX11_thumb 247 = .ok (.invokevirtual 49, 3) := by decide +kernel
theorem dX11_thumb_250 : decode cX11_thumb 250 = .ok (.iload_n 2, 1) := by decide +kernel
theorem dX11_thumb_251 : decode cX11_thumb 251 = .ok (.bipush 6, 2) := by decide +kernel
theorem dX11_thumb_253 : decode cX11_thumb 253 = .ok (.if_icmp .ne 10, 3) := by decide +kernel
theorem dX11_thumb_256 : decode cX11_thumb 256 = .ok (.iconst 4, 1) := by decide +kernel
theorem dX11_thumb_257 : decode cX11_thumb 257 = .ok (.iload 6, 2) := by decide +kernel
theorem dX11_thumb_259 : decode cX11_thumb 259 = .ok (.imul, 1) := by decide +kernel
theorem dX11_thumb_260 : decode cX11_thumb 260 = .ok (.goto 5, 3) := by decide +kernel
theorem dX11_thumb_263 : decode cX11_thumb 263 = .ok (.iload 6, 2) := by decide +kernel
theorem dX11_thumb_265 : decode cX11_thumb 265 = .ok (.iadd, 1) := by decide +kernel
theorem dX11_thumb_266 : decode cX11_thumb 266 = .ok (.iconst (-1), 1) := by decide +kernel
theorem dX11_thumb_267 : decode cX11_thumb 267 = .ok (.iconst 0, 1) := by decide +kernel
theorem dX11_thumb_268 : decode cX11_thumb 268 = .ok (.invokevirtual 227, 3) := by decide +kernel
theorem dX11_thumb_271 : decode cX11_thumb 271 = .ok (.goto 171, 3) := by decide +kernel
theorem dX11_thumb_274 : decode cX11_thumb 274 = .ok (.iload_n 2, 1) := by decide +kernel
theorem dX11_thumb_275 : decode cX11_thumb 275 = .ok (.bipush 8, 2) := by decide +kernel
theorem dX11_thumb_277 : decode cX11_thumb 277 = .ok (.if_icmp .ne 27, 3) := by decide +kernel
theorem dX11_thumb_280 : decode cX11_thumb 280 = .ok (.aload_n 0, 1) := by decide +kernel
theorem dX11_thumb_281 : decode cX11_thumb 281 = .ok (.iload 9, 2) := by decide +kernel
theorem dX11_thumb_283 : decode cX11_thumb 283 = .ok (.iconst 2, 1) := by decide +kernel
theorem dX11_thumb_284 : decode cX11_thumb 284 = .ok (.iload_n 3, 1) := by decide +kernel
theorem dX11_thumb_285 : decode cX11_thumb 285 = .ok (.aload_n 0, 1) := by decide +kernel
theorem dX11_thumb_286 : decode cX11_thumb 286 = .ok (.iload 4, 2) := by decide +kernel
theorem dX11_thumb_288 : decode cX11_thumb 288 = .ok (.invokevirtual 49, 3) := by decide +kernel
theorem dX11_thumb_291 : decode cX11_thumb 291 = .ok (.iconst 2, 1) := by decide +kernel
theorem dX11_thumb_292 : decode cX11_thumb 292 = .ok (.iload 6, 2) := by decide +kernel
theorem dX11_thumb_294 : decode cX11_thumb 294 = .ok (.imul, 1) := by decide +kernel
theorem dX11_thumb_295 : decode cX11_thumb 295 = .ok (.iadd, 1) := by decide +kernel
theorem dX11_thumb_296 : decode cX11_thumb 296 = .ok (.iconst (-1), 1) := by decide +kernel
theorem dX11_thumb_297 : decode cX11_thumb 297 = .ok (.iconst 0, 1) := by decide +kernel
theorem dX11_thumb_298 : decode cX11_thumb 298 = .ok (.invokevirtual 227, 3) := by decide +kernel
theorem dX11_thumb_301 : decode cX11_thumb 301 = .ok (.goto 141, 3) := by decide +kernel
theorem dX11_thumb_304 : decode cX11_thumb 304 = .ok (.iload_n 2, 1) := by decide +kernel
theorem dX11_thumb_305 : decode cX11_thumb 305 = .ok (.bipush 9, 2) := by decide +kernel
theorem dX11_thumb_307 : decode cX11_thumb 307 = .ok (.if_icmp .ne 28, 3) := by decide +kernel
theorem dX11_thumb_310 : decode cX11_thumb 310 = .ok (.aload_n 0, 1) := by decide +kernel
theorem dX11_thumb_311 : decode cX11_thumb 311 = .ok (.iload 9, 2) := by decide +kernel
theorem dX11_thumb_313 : decode cX11_thumb 313 = .ok (.iconst 4, 1) := by decide +kernel
theorem dX11_thumb_314 : decode cX11_thumb 314 = .ok (.iload 7, 2) := by decide +kernel
theorem dX11_thumb_316 : decode cX11_thumb 316 = .ok (.aload_n 0, 1) := by decide +kernel
theorem dX11_thumb_317 : decode cX11_thumb 317 = .ok (.bipush 13, 2) := by decide +kernel
theorem dX11_thumb_319 : decode cX11_thumb 319 = .ok (.invokevirtual 49, 3) := by decide +kernel
theorem dX11_thumb_322 : decode cX11_thumb 322 = .ok (.iconst 4, 1) := by decide +kernel
theorem dX11_thumb_323 : decode cX11_thumb 323 = .ok (.iload 8, 2) := by decide +kernel
theorem dX11_thumb_325 : decode cX11_thumb 325 = .ok (.imul, 1) := by decide +kernel
theorem dX11_thumb_326 : decode cX11_thumb 326 = .ok (.iadd, 1) := by decide +kernel
theorem dX11_thumb_327 : decode cX11_thumb 327 = .ok (.iconst (-1), 1) := by decide +kernel
theorem dX11_thumb_328 : decode cX11_thumb 328 = .ok (.iconst 0, 1) := by decide +kernel
theorem dX11_thumb_329 : decode cX11_thumb 329 = .ok (.invokevirtual 227, 3) := by decide +kernel
theorem dX11_thumb_332 : decode cX11_thumb 332 = .ok (.goto 110, 3) := by decide +kernel
theorem dX11_thumb_335 : decode cX11_thumb 335 = .ok (.iload_n 2, 1) := by decide +kernel
theorem dX11_thumb_336 : decode cX11_thumb 336 = .ok (.bipush 10, 2) := by decide +kernel
theorem dX11_thumb_338 : decode cX11_thumb 338 = .ok (.if_icmp .ne 40, 3) := by decide +kernel
theorem dX11_thumb_341 : decode cX11_thumb 341 = .ok (.aload_n 0, 1) := by decide +kernel
theorem dX11_thumb_342 : decode cX11_thumb 342 = .ok (.iload 7, 2) := by decide +kernel
theorem dX11_thumb_344 : decode cX11_thumb 344 = .ok (.iload 9, 2) := by decide +kernel
theorem dX11_thumb_346 : decode cX11_thumb 346 = .ok (.ifCond .eq 12, 3) := by decide +kernel
theorem dX11_thumb_349 : decode cX11_thumb 349 = .ok (.aload_n 0, 1) := by decide +kernel
theorem dX11_thumb_350 : decode cX11_thumb 350 = .ok (.bipush 13, 2) := by decide +kernel
theorem dX11_thumb_352 : decode cX11_thumb 352 = .ok (.invokevirtual 49, 3) := by decide +kernel
theorem dX11_thumb_355 : decode cX11_thumb 355 = .ok (.goto 12, 3) := by decide +kernel
theorem dX11_thumb_358 : decode cX11_thumb 358 = .ok (.aload_n 0, 1) := by decide +kernel
theorem dX11_thumb_359 : decode cX11_thumb 359 = .ok (.getfield 46, 3) := by decide +kernel
theorem dX11_thumb_362 : decode cX11_thumb 362 = .ok (.iconst 4, 1) := by decide +kernel
theorem dX11_thumb_363 : decode cX11_thumb 363 = .ok (.iadd, 1) := by decide +kernel
theorem dX11_thumb_364 : decode cX11_thumb 364 = .ok (.bipush (-4), 2) := by decide +kernel
theorem dX11_thumb_366 : decode cX11_thumb 366 = .ok (.iand, 1) := by decide +kernel
theorem dX11_thumb_367 : decode cX11_thumb 367 = .ok (.iconst 4, 1) := by decide +kernel
theorem dX11_thumb_368 : decode cX11_thumb 368 = .ok (.iload 8, 2) := by decide +kernel
theorem dX11_thumb_370 : decode cX11_thumb 370 = .ok (.imul, 1) := by decide +kernel
theorem dX11_thumb_371 : decode cX11_thumb 371 = .ok (.iadd, 1) := by decide +kernel
theorem dX11_thumb_372 : decode cX11_thumb 372 = .ok (.invokevirtual 135, 3) := by decide +kernel
theorem dX11_thumb_375 : decode cX11_thumb 375 = .ok (.goto 67, 3) := by decide +kernel
theorem dX11_thumb_378 : decode cX11_thumb 378 = .ok (.iload_n 2, 1) := by decide +kernel
theorem dX11_thumb_379 : decode cX11_thumb 379 = .ok (.bipush 11, 2) := by decide +kernel
theorem dX11_thumb_381 : decode cX11_thumb 381 = .ok (.if_icmp .ne 11, 3) := by decide +kernel
theorem dX11_thumb_384 : decode cX11_thumb 384 = .ok (.aload_n 0, 1) := by decide +kernel
theorem dX11_thumb_385 : decode cX11_thumb 385 = .ok (.iload_n 1, 1) := by decide +kernel
theorem dX11_thumb_386 : decode cX11_thumb 386 = .ok (.invokevirtual 261, 3) := by decide +kernel
theorem dX11_thumb_389 : decode cX11_thumb 389 = .ok (.goto 53, 3) := by decide +kernel
theorem dX11_thumb_392 : decode cX11_thumb 392 = .ok (.iload_n 2, 1) := by decide +kernel
theorem dX11_thumb_393 : decode cX11_thumb 393 = .ok (.bipush 12, 2) := by decide +kernel
theorem dX11_thumb_395 : decode cX11_thumb 395 = .ok (.if_icmp .ne 20, 3) := by decide +kernel
theorem dX11_thumb_398 : decode cX11_thumb 398 = .ok (.aload_n 0, 1) := by decide +kernel
theorem dX11_thumb_399 : decode cX11_thumb 399 = .ok (.iload 9, 2) := by decide +kernel
theorem dX11_thumb_401 : decode cX11_thumb 401 = .ok (.iload 7, 2) := by decide +kernel
theorem dX11_thumb_403 : decode cX11_thumb 403 = .ok (.iload 8, 2) := by decide +kernel
theorem dX11_thumb_405 : decode cX11_thumb 405 = .ok (.iconst 1, 1) := by decide +kernel
theorem dX11_thumb_406 : decode cX11_thumb 406 = .ok (.iconst 0, 1) := by decide +kernel
theorem dX11_thumb_407 : decode cX11_thumb 407 = .ok (.iconst 1, 1) := by decide +kernel
theorem dX11_thumb_408 : decode cX11_thumb 408 = .ok (.iconst 0, 1) := by decide +kernel
theorem dX11_thumb_409 : decode cX11_thumb 409 = .ok (.invokevirtual 220, 3) := by decide +kernel
theorem dX11_thumb_412 : decode cX11_thumb 412 = .ok (.goto 30, 3) := by decide +kernel
theorem dX11_thumb_415 : decode cX11_thumb 415 = .ok (.iload_n 2, 1) := by decide +kernel
theorem dX11_thumb_416 : decode cX11_thumb 416 = .ok (.bipush 13, 2) := by decide +kernel
theorem dX11_thumb_418 : decode cX11_thumb 418 = .ok (.if_icmp .ne 19, 3) := by decide +kernel
theorem dX11_thumb_421 : decode cX11_thumb 421 = .ok (.aload_n 0, 1) := by decide +kernel
theorem dX11_thumb_422 : decode cX11_thumb 422 = .ok (.iload_n 1, 1) := by decide +kernel
theorem dX11_thumb_423 : decode cX11_thumb 423 = .ok (.bipush 8, 2) := by decide +kernel
theorem dX11_thumb_425 : decode cX11_thumb 425 = .ok (.ishr, 1) := by decide +kernel
theorem dX11_thumb_426 : decode cX11_thumb 426 = .ok (.bipush 15, 2) := by decide +kernel
theorem dX11_thumb_428 : decode cX11_thumb 428 = .ok (.iand, 1) := by decide +kernel
theorem dX11_thumb_429 : decode cX11_thumb 429 = .ok (.iload 8, 2) := by decide +kernel
theorem dX11_thumb_431 : decode cX11_thumb 431 = .ok (.invokevirtual 264, 3) := by decide +kernel
theorem dX11_thumb_434 : decode cX11_thumb 434 = .ok (.goto 8, 3) := by decide +kernel
theorem dX11_thumb_437 : decode cX11_thumb 437 = .ok (.aload_n 0, 1) := by decide +kernel
theorem dX11_thumb_438 : decode cX11_thumb 438 = .ok (.iload_n 1, 1) := by decide +kernel
theorem dX11_thumb_439 : decode cX11_thumb 439 = .ok (.invokevirtual 267, 3) := by decide +kernel
theorem dX11_thumb_442 : decode cX11_thumb 442 = .ok (.return_, 1) := by decide +kernel
theorem dX11_early_0 : decode cX11_early 0 = .ok (.iload_n 1, 1) := by decide +kernel
theorem dX11_early_1 : decode cX11_early 1 = .ok (.bipush 11, 2) := by decide +kernel
theorem dX11_early_3 : decode cX11_early 3 = .ok (.ishr, 1) := by decide +kernel
theorem dX11_early_4 : decode cX11_early 4 = .ok (.iconst 3, 1) := by decide +kernel
theorem dX11_early_5 : decode cX11_early 5 = .ok (.iand, 1) := by decide +kernel
theorem dX11_early_6 : decode cX11_early 6 = .ok (.istore 6, 2) := by decide +kernel
theorem dX11_early_8 : decode cX11_early 8 = .ok (.iload 6, 2) := by decide +kernel
theorem dX11_early_10 : decode cX11_early 10 = .ok (.iconst 3, 1) := by decide +kernel
theorem dX11_early_11 : decode cX11_early 11 = .ok (.if_icmp .ge 26, 3) := by decide +kernel
theorem dX11_early_14 : decode cX11_early 14 = .ok (.aload_n 0, 1) := by decide +kernel
theorem dX11_early_15 : decode cX11_early 15 = .ok (.bipush 13, 2) := by decide +kernel
theorem dX11_early_17 : decode cX11_early 17 = .ok (.iload_n 2, 1) := by decide +kernel
theorem dX11_early_18 : decode cX11_early 18 = .ok (.iconst 0, 1) := by decide +kernel
theorem dX11_early_19 : decode cX11_early 19 = .ok (.aload_n 0, 1) := by decide +kernel
theorem dX11_early_20 : decode cX11_early 20 = .ok (.iload 6, 2) := by decide +kernel
theorem dX11_early_22 : decode cX11_early 22 = .ok (.aload_n 0, 1) := by decide +kernel
theorem dX11_early_23 : decode cX11_early 23 = .ok (.iload_n 3, 1) := by decide +kernel
theorem dX11_early_24 : decode cX11_early 24 = .ok (.invokevirtual 49, 3) := by decide +kernel
theorem dX11_early_27 : decode cX11_early 27 = .ok (.iload 5, 2) := by decide +kernel
theorem dX11_early_29 : decode cX11_early 29 = .ok (.invokevirtual 178, 3) := by decide +kernel
theorem dX11_early_32 : decode cX11_early 32 = .ok (.iconst 1, 1) := by decide +kernel
theorem dX11_early_33 : decode cX11_early 33 = .ok (.invokevirtual 184, 3) := by decide +kernel
theorem dX11_early_36 : decode cX11_early 36 = .ok (.return_, 1) := by decide +kernel
theorem dX11_early_37 : decode cX11_early 37 = .ok (.iload_n 1, 1) := by decide +kernel
theorem dX11_early_38 : decode cX11_early 38 = .ok (.bipush 10, 2) := by decide +kernel
theorem dX11_early_40 : decode cX11_early 40 = .ok (.ishr, 1) := by decide +kernel
theorem dX11_early_41 : decode cX11_early 41 = .ok (.iconst 1, 1) := by decide +kernel
theorem dX11_early_42 : decode cX11_early 42 = .ok (.iand, 1) := by decide +kernel
theorem dX11_early_43 : decode cX11_early 43 = .ok (.iconst 1, 1) := by decide +kernel
theorem dX11_early_44 : decode cX11_early 44 = .ok (.if_icmp .ne 8, 3) := by decide +kernel
theorem dX11_early_47 : decode cX11_early 47 = .ok (.iload 4, 2) := by decide +kernel
theorem dX11_early_49 : decode cX11_early 49 = .ok (.goto 9, 3) := by decide +kernel
theorem dX11_early_52 : decode cX11_early 52 = .ok (.aload_n 0, 1) := by decide +kernel
theorem dX11_early_53 : decode cX11_early 53 = .ok (.iload 4, 2) := by decide +kernel
theorem dX11_early_55 : decode cX11_early 55 = .ok (.invokevirtual 49, 3) := by decide +kernel
theorem dX11_early_58 : decode cX11_early 58 = .ok (.istore 7, 2) := by decide +kernel
theorem dX11_early_60 : decode cX11_early 60 = .ok (.aload_n 0, 1) := by decide +kernel
theorem dX11_early_61 : decode cX11_early 61 = .ok (.iload_n 1, 1) := by decide +kernel
theorem dX11_early_62 : decode cX11_early 62 = .ok (.bipush 9, 2) := by decide +kernel
theorem dX11_early_64 : decode cX11_early 64 = .ok (.ishr, 1) := by decide +kernel
theorem dX11_early_65 : decode cX11_early 65 = .ok (.iconst 1, 1) := by decide +kernel
theorem dX11_early_66 : decode cX11_early 66 = .ok (.iand, 1) := by decide +kernel
theorem dX11_early_67 : decode cX11_early 67 = .ok (.iconst 1, 1) := by decide +kernel
theorem dX11_early_68 : decode cX11_early 68 = .ok (.if_icmp .ne 7, 3) := by decide +kernel
theorem dX11_early_71 : decode cX11_early 71 = .ok (.iconst 2, 1) := by decide +kernel
theorem dX11_early_72 : decode cX11_early 72 = .ok (.goto 4, 3) := by decide +kernel
theorem dX11_early_75 : decode cX11_early 75 = .ok (.iconst 4, 1) := by decide +kernel
theorem dX11_early_76 : decode cX11_early 76 = .ok (.iload_n 2, 1) := by decide +kernel
theorem dX11_early_77 : decode cX11_early 77 = .ok (.aload_n 0, 1) := by decide +kernel
theorem dX11_early_78 : decode cX11_early 78 = .ok (.iload_n 3, 1) := by decide +kernel
theorem dX11_early_79 : decode cX11_early 79 = .ok (.invokevirtual 49, 3) := by decide +kernel
theorem dX11_early_82 : decode cX11_early 82 = .ok (.iload 7, 2) := by decide +kernel
theorem dX11_early_84 : decode cX11_early 84 = .ok (.iconst 1, 1) := by decide +kernel
theorem dX11_early_85 : decode cX11_early 85 = .ok (.invokevirtual 184, 3) := by decide +kernel
theorem dX11_early_88 : decode cX11_early 88 = .ok (.return_, 1) := by decide +kernel
theorem dX11_numbers_0 : decode cX11_numbers 0 = .ok (.aload_n 0, 1) := by decide +kernel
theorem dX11_numbers_1 : decode cX11_numbers 1 = .ok (.aload_n 0, 1) := by decide +kernel
theorem dX11_numbers_2 : decode cX11_numbers 2 = .ok (.bipush 29, 2) := by decide +kernel
theorem dX11_numbers_4 : decode cX11_numbers 4 = .ok (.invokevirtual 92, 3) := by decide +kernel
theorem dX11_numbers_7 : decode cX11_numbers 7 = .ok (.putfield 138, 3) := by decide +kernel
theorem dX11_numbers_10 : decode cX11_numbers 10 = .ok (.aload_n 0, 1) := by decide +kernel
theorem dX11_numbers_11 : decode cX11_numbers 11 = .ok (.iload_n 1, 1) := by decide +kernel
theorem dX11_numbers_12 : decode cX11_numbers 12 = .ok (.ifCond .ne 8, 3) := by decide +kernel
theorem dX11_numbers_15 : decode cX11_numbers 15 = .ok (.bipush 13, 2) := by decide +kernel
theorem dX11_numbers_17 : decode cX11_numbers 17 = .ok (.goto 23, 3) := by decide +kernel
theorem dX11_numbers_20 : decode cX11_numbers 20 = .ok (.iload_n 1, 1) := by decide +kernel
theorem dX11_numbers_21 : decode cX11_numbers 21 = .ok (.iconst 1, 1) := by decide +kernel
theorem dX11_numbers_22 : decode cX11_numbers 22 = .ok (.if_icmp .ne 8, 3) := by decide +kernel
theorem dX11_numbers_25 : decode cX11_numbers 25 = .ok (.bipush 10, 2) := by decide +kernel
theorem dX11_numbers_27 : decode cX11_numbers 27 = .ok (.goto 13, 3) := by decide +kernel
theorem dX11_numbers_30 : decode cX11_numbers 30 = .ok (.iload_n 1, 1) := by decide +kernel
theorem dX11_numbers_31 : decode cX11_numbers 31 = .ok (.iconst 2, 1) := by decide +kernel
theorem dX11_numbers_32 : decode cX11_numbers 32 = .ok (.if_icmp .ne 7, 3) := by decide +kernel
theorem dX11_numbers_35 : decode cX11_numbers 35 = .ok (.iconst 4, 1) := by decide +kernel
theorem dX11_numbers_36 : decode cX11_numbers 36 = .ok (.goto 4, 3) := by decide +kernel
theorem dX11_numbers_39 : decode cX11_numbers 39 = .ok (.iconst 2, 1) := by decide +kernel
theorem dX11_numbers_40 : decode cX11_numbers 40 = .ok (.iload_n 2, 1) := by decide +kernel
theorem dX11_numbers_41 : decode cX11_numbers 41 = .ok (.aload_n 0, 1) := by decide +kernel
theorem dX11_numbers_42 : decode cX11_numbers 42 = .ok (.iload_n 2, 1) := by decide +kernel
theorem dX11_numbers_43 : decode cX11_numbers 43 = .ok (.invokevirtual 49, 3) := by decide +kernel
theorem dX11_numbers_46 : decode cX11_numbers 46 = .ok (.iload_n 3, 1) := by decide +kernel
theorem dX11_numbers_47 : decode cX11_numbers 47 = .ok (.iconst 1, 1) := by decide +kernel
theorem dX11_numbers_48 : decode cX11_numbers 48 = .ok (.invokevirtual 184, 3) := by decide +kernel
theorem dX11_numbers_51 : decode cX11_numbers 51 = .ok (.return_, 1) := by decide +kernel
theorem dX11_operations_0 : decode cX11_operations 0 = .ok (.aload_n 0, 1) := by decide +kernel
theorem dX11_operations_1 : decode cX11_operations 1 = .ok (.iload_n 2, 1) := by decide +kernel
theorem dX11_operations_2 : decode cX11_operations 2 = .ok (.invokevirtual 49, 3) := by decide +kernel
theorem dX11_operations_5 : decode cX11_operations 5 = .ok (.istore 4, 2) := by decide +kernel
theorem dX11_operations_7 : decode cX11_operations 7 = .ok (.aload_n 0, 1) := by decide +kernel
theorem dX11_operations_8 : decode cX11_operations 8 = .ok (.iload_n 3, 1) := by decide +kernel
theorem dX11_operations_9 : decode cX11_operations 9 = .ok (.invokevirtual 49, 3) := by decide +kernel
theorem dX11_operations_12 : decode cX11_operations 12 = .ok (.istore 5, 2) := by decide +kernel
theorem dX11_operations_14 : decode cX11_operations 14 = .ok (.aload_n 0, 1) := by decide +kernel
theorem dX11_operations_15 : decode cX11_operations 15 = .ok (.aload_n 0, 1) := by decide +kernel
theorem dX11_operations_16 : decode cX11_operations 16 = .ok (.bipush 29, 2) := by decide +kernel
theorem dX11_operations_18 : decode cX11_operations 18 = .ok (.invokevirtual 92, 3) := by decide +kernel
theorem dX11_operations_21 : decode cX11_operations 21 = .ok (.putfield 138, 3) := by decide +kernel
theorem dX11_operations_24 : decode cX11_operations 24 = .ok (.iload_n 1, 1) := by decide +kernel
theorem dX11_operations_25 : decode cX11_operations 25 = .ok (.bipush 13, 2) := by decide +kernel
theorem dX11_operations_27 : decode cX11_operations 27 = .ok (.if_icmp .ne 25, 3) := by decide +kernel
theorem dX11_operations_30 : decode cX11_operations 30 = .ok (.aload_n 0, 1) := by decide +kernel
theorem dX11_operations_31 : decode cX11_operations 31 = .ok (.iload_n 2, 1) := by decide +kernel
theorem dX11_operations_32 : decode cX11_operations 32 = .ok (.iload 4, 2) := by decide +kernel
theorem dX11_operations_34 : decode cX11_operations 34 = .ok (.iload 5, 2) := by decide +kernel
theorem dX11_operations_36 : decode cX11_operations 36 = .ok (.imul, 1) := by decide +kernel
theorem dX11_operations_37 : decode cX11_operations 37 = .ok (.invokevirtual 135, 3) := by decide +kernel
theorem dX11_operations_40 : decode cX11_operations 40 = .ok (.aload_n 0, 1) := by decide +kernel
theorem dX11_operations_41 : decode cX11_operations 41 = .ok (.iload 4, 2) := by decide +kernel
theorem dX11_operations_43 : decode cX11_operations 43 = .ok (.iload 5, 2) := by decide +kernel
theorem dX11_operations_45 : decode cX11_operations 45 = .ok (.imul, 1) := by decide +kernel
theorem dX11_operations_46 : decode cX11_operations 46 = .ok (.invokevirtual 159, 3) := by decide +kernel
theorem dX11_operations_49 : decode cX11_operations 49 = .ok (.goto 85, 3) := by decide +kernel
theorem dX11_operations_52 : decode cX11_operations 52 = .ok (.iload_n 1, 1) := by decide +kernel
theorem dX11_operations_53 : decode cX11_operations 53 = .ok (.iconst 2, 1) := by decide +kernel
theorem dX11_operations_54 : decode cX11_operations 54 = .ok (.iconst 4, 1) := by decide +kernel
theorem dX11_operations_55 : decode cX11_operations 55 = .ok (.invokestatic 81, 3) := by decide +kernel
theorem dX11_operations_58 : decode cX11_operations 58 = .ok (.ifCond .ne 9, 3) := by decide +kernel
theorem dX11_operations_61 : decode cX11_operations 61 = .ok (.iload_n 1, 1) := by decide +kernel
theorem dX11_operations_62 : decode cX11_operations 62 = .ok (.bipush 7, 2) := by decide +kernel
theorem dX11_operations_64 : decode cX11_operations 64 = .ok (.if_icmp .ne 40, 3) := by decide +kernel
theorem dX11_operations_67 : decode cX11_operations 67 = .ok (.aload_n 0, 1) := by decide +kernel
theorem dX11_operations_68 : decode cX11_operations 68 = .ok (.bipush 13, 2) := by decide +kernel
theorem dX11_operations_70 : decode cX11_operations 70 = .ok (.iload_n 2, 1) := by decide +kernel
theorem dX11_operations_71 : decode cX11_operations 71 = .ok (.iconst 0, 1) := by decide +kernel
theorem dX11_operations_72 : decode cX11_operations 72 = .ok (.aload_n 0, 1) := by decide +kernel
theorem dX11_operations_73 : decode cX11_operations 73 = .ok (.iload_n 1, 1) := by decide +kernel
theorem dX11_operations_74 : decode cX11_operations 74 = .ok (.bipush 7, 2) := by decide +kernel
theorem dX11_operations_76 : decode cX11_operations 76 = .ok (.if_icmp .ne 7, 3) := by decide +kernel
theorem dX11_operations_79 : decode cX11_operations 79 = .ok (.iconst 3, 1) := by decide +kernel
theorem dX11_operations_80 : decode cX11_operations 80 = .ok (.goto 6, 3) := by decide +kernel
theorem dX11_operations_83 : decode cX11_operations 83 = .ok (.iload_n 1, 1) := by decide +kernel
theorem dX11_operations_84 : decode cX11_operations 84 = .ok (.iconst 2, 1) := by decide +kernel
theorem dX11_operations_85 : decode cX11_operations 85 = .ok (.isub, 1) := by decide +kernel
theorem dX11_operations_86 : decode cX11_operations 86 = .ok (.iload 4, 2) := by decide +kernel
theorem dX11_operations_88 : decode cX11_operations 88 = .ok (.iload 5, 2) := by decide +kernel
theorem dX11_operations_90 : decode cX11_operations 90 = .ok (.sipush 255, 3) := by decide +kernel
theorem dX11_operations_93 : decode cX11_operations 93 = .ok (.iand, 1) := by decide +kernel
theorem dX11_operations_94 : decode cX11_operations 94 = .ok (.invokevirtual 141, 3) := by decide +kernel
theorem dX11_operations_97 : decode cX11_operations 97 = .ok (.iconst 1, 1) := by decide +kernel
theorem dX11_operations_98 : decode cX11_operations 98 = .ok (.invokevirtual 184, 3) := by decide +kernel
theorem dX11_operations_101 : decode cX11_operations 101 = .ok (.goto 33, 3) := by decide +kernel
theorem dX11_operations_104 : decode cX11_operations 104 = .ok (.iload_n 1, 1) := by decide +kernel
theorem dX11_operations_105 : decode cX11_operations 105 = .ok (.bipush 9, 2) := by decide +kernel
theorem dX11_operations_107 : decode cX11_operations 107 = .ok (.if_icmp .ne 16, 3) := by decide +kernel
theorem dX11_operations_110 : decode cX11_operations 110 = .ok (.aload_n 0, 1) := by decide +kernel
theorem dX11_operations_111 : decode cX11_operations 111 = .ok (.iconst 3, 1) := by decide +kernel
theorem dX11_operations_112 : decode cX11_operations 112 = .ok (.iload_n 2, 1) := by decide +kernel
theorem dX11_operations_113 : decode cX11_operations 113 = .ok (.iload 5, 2) := by decide +kernel
theorem dX11_operations_115 : decode cX11_operations 115 = .ok (.iconst 0, 1) := by decide +kernel
theorem dX11_operations_116 : decode cX11_operations 116 = .ok (.iconst 1, 1) := by decide +kernel
theorem dX11_operations_117 : decode cX11_operations 117 = .ok (.invokevirtual 184, 3) := by decide +kernel
theorem dX11_operations_120 : decode cX11_operations 120 = .ok (.goto 14, 3) := by decide +kernel
theorem dX11_operations_123 : decode cX11_operations 123 = .ok (.aload_n 0, 1) := by decide +kernel
theorem dX11_operations_124 : decode cX11_operations 124 = .ok (.iload_n 1, 1) := by decide +kernel
theorem dX11_operations_125 : decode cX11_operations 125 = .ok (.iload_n 2, 1) := by decide +kernel
theorem dX11_operations_126 : decode cX11_operations 126 = .ok (.iload 4, 2) := by decide +kernel
theorem dX11_operations_128 : decode cX11_operations 128 = .ok (.iload 5, 2) := by decide +kernel
theorem dX11_operations_130 : decode cX11_operations 130 = .ok (.iconst 1, 1) := by decide +kernel
theorem dX11_operations_131 : decode cX11_operations 131 = .ok (.invokevirtual 184, 3) := by decide +kernel
theorem dX11_operations_134 : decode cX11_operations 134 = .ok (.return_, 1) := by decide +kernel
theorem dX11_highOnes_0 : decode cX11_highOnes 0 = .ok (.iload_n 1, 1) := by decide +kernel
theorem dX11_highOnes_1 : decode cX11_highOnes 1 = .ok (.bipush 7, 2) := by decide +kernel
theorem dX11_highOnes_3 : decode cX11_highOnes 3 = .ok (.iand, 1) := by decide +kernel
theorem dX11_highOnes_4 : decode cX11_highOnes 4 = .ok (.iload_n 1, 1) := by decide +kernel
theorem dX11_highOnes_5 : decode cX11_highOnes 5 = .ok (.iconst 4, 1) := by decide +kernel
theorem dX11_highOnes_6 : decode cX11_highOnes 6 = .ok (.ishr, 1) := by decide +kernel
theorem dX11_highOnes_7 : decode cX11_highOnes 7 = .ok (.bipush 8, 2) := by decide +kernel
theorem dX11_highOnes_9 : decode cX11_highOnes 9 = .ok (.iand, 1) := by decide +kernel
theorem dX11_highOnes_10 : decode cX11_highOnes 10 = .ok (.ior, 1) := by decide +kernel
theorem dX11_highOnes_11 : decode cX11_highOnes 11 = .ok (.istore_n 2, 1) := by decide +kernel
theorem dX11_highOnes_12 : decode cX11_highOnes 12 = .ok (.iload_n 1, 1) := by decide +kernel
theorem dX11_highOnes_13 : decode cX11_highOnes 13 = .ok (.iconst 3, 1) := by decide +kernel
theorem dX11_highOnes_14 : decode cX11_highOnes 14 = .ok (.ishr, 1) := by decide +kernel
theorem dX11_highOnes_15 : decode cX11_highOnes 15 = .ok (.bipush 15, 2) := by decide +kernel
theorem dX11_highOnes_17 : decode cX11_highOnes 17 = .ok (.iand, 1) := by decide +kernel
theorem dX11_highOnes_18 : decode cX11_highOnes 18 = .ok (.istore_n 3, 1) := by decide +kernel
theorem dX11_highOnes_19 : decode cX11_highOnes 19 = .ok (.iload_n 1, 1) := by decide +kernel
theorem dX11_highOnes_20 : decode cX11_highOnes 20 = .ok (.bipush 8, 2) := by decide +kernel
theorem dX11_highOnes_22 : decode cX11_highOnes 22 = .ok (.ishr, 1) := by decide +kernel
theorem dX11_highOnes_23 : decode cX11_highOnes 23 = .ok (.iconst 3, 1) := by decide +kernel
theorem dX11_highOnes_24 : decode cX11_highOnes 24 = .ok (.iand, 1) := by decide +kernel
theorem dX11_highOnes_25 : decode cX11_highOnes 25 = .ok (.istore 4, 2) := by decide +kernel
theorem dX11_highOnes_27 : decode cX11_highOnes 27 = .ok (.iload 4, 2) := by decide +kernel
theorem dX11_highOnes_29 : decode cX11_highOnes 29 = .ok (.iconst 3, 1) := by decide +kernel
theorem dX11_highOnes_30 : decode cX11_highOnes 30 = .ok (.if_icmp .ne 32, 3) := by decide +kernel
theorem dX11_highOnes_33 : decode cX11_highOnes 33 = .ok (.iload_n 1, 1) := by decide +kernel
theorem dX11_highOnes_34 : decode cX11_highOnes 34 = .ok (.bipush 7, 2) := by decide +kernel
theorem dX11_highOnes_36 : decode cX11_highOnes 36 = .ok (.ishr, 1) := by decide +kernel
theorem dX11_highOnes_37 : decode cX11_highOnes 37 = .ok (.iconst 1, 1) := by decide +kernel
theorem dX11_highOnes_38 : decode cX11_highOnes 38 = .ok (.iand, 1) := by decide +kernel
theorem dX11_highOnes_39 : decode cX11_highOnes 39 = .ok (.iconst 1, 1) := by decide +kernel
theorem dX11_highOnes_40 : decode cX11_highOnes 40 = .ok (.if_icmp .ne 10, 3) := by decide +kernel
theorem dX11_highOnes_43 : decode cX11_highOnes 43 = .ok (.aload_n 0, 1) := by decide +kernel
theorem dX11_highOnes_44 : decode cX11_highOnes 44 = .ok (.invokevirtual 172, 3) := by decide +kernel
theorem dX11_highOnes_47 : decode cX11_highOnes 47 = .ok (.goto 63, 3) := by decide +kernel
theorem dX11_highOnes_50 : decode cX11_highOnes 50 = .ok (.aload_n 0, 1) := by decide +kernel
theorem dX11_highOnes_51 : decode cX11_highOnes 51 = .ok (.aload_n 0, 1) := by decide +kernel
theorem dX11_highOnes_52 : decode cX11_highOnes 52 = .ok (.iload_n 3, 1) := by decide +kernel
theorem dX11_highOnes_53 : decode cX11_highOnes 53 = .ok (.invokevirtual 193, 3) := by decide +kernel
theorem dX11_highOnes_56 : decode cX11_highOnes 56 = .ok (.invokevirtual 196, 3) := by decide +kernel
theorem dX11_highOnes_59 : decode cX11_highOnes 59 = .ok (.goto 51, 3) := by decide +kernel
theorem dX11_highOnes_62 : decode cX11_highOnes 62 = .ok (.aload_n 0, 1) := by decide +kernel
theorem dX11_highOnes_63 : decode cX11_highOnes 63 = .ok (.iload 4, 2) := by decide +kernel
theorem dX11_highOnes_65 : decode cX11_highOnes 65 = .ok (.ifCond .ne 7, 3) := by decide +kernel
theorem dX11_highOnes_68 : decode cX11_highOnes 68 = .ok (.iconst 4, 1) := by decide +kernel
theorem dX11_highOnes_69 : decode cX11_highOnes 69 = .ok (.goto 16, 3) := by decide +kernel
theorem dX11_highOnes_72 : decode cX11_highOnes 72 = .ok (.iload 4, 2) := by decide +kernel
theorem dX11_highOnes_74 : decode cX11_highOnes 74 = .ok (.iconst 1, 1) := by decide +kernel
theorem dX11_highOnes_75 : decode cX11_highOnes 75 = .ok (.if_icmp .ne 8, 3) := by decide +kernel
theorem dX11_highOnes_78 : decode cX11_highOnes 78 = .ok (.bipush 10, 2) := by decide +kernel
theorem dX11_highOnes_80 : decode cX11_highOnes 80 = .ok (.goto 5, 3) := by decide +kernel
theorem dX11_highOnes_83 : decode cX11_highOnes 83 = .ok (.bipush 13, 2) := by decide +kernel
theorem dX11_highOnes_85 : decode cX11_highOnes 85 = .ok (.iload_n 2, 1) := by decide +kernel
theorem dX11_highOnes_86 : decode cX11_highOnes 86 = .ok (.aload_n 0, 1) := by decide +kernel
theorem dX11_highOnes_87 : decode cX11_highOnes 87 = .ok (.iload_n 2, 1) := by decide +kernel
theorem dX11_highOnes_88 : decode cX11_highOnes 88 = .ok (.invokevirtual 193, 3) := by decide +kernel
theorem dX11_highOnes_91 : decode cX11_highOnes 91 = .ok (.aload_n 0, 1) := by decide +kernel
theorem dX11_highOnes_92 : decode cX11_highOnes 92 = .ok (.iload_n 3, 1) := by decide +kernel
theorem dX11_highOnes_93 : decode cX11_highOnes 93 = .ok (.invokevirtual 193, 3) := by decide +kernel
theorem dX11_highOnes_96 : decode cX11_highOnes 96 = .ok (.iload 4, 2) := by decide +kernel
theorem dX11_highOnes_98 : decode cX11_highOnes 98 = .ok (.iconst 1, 1) := by decide +kernel
theorem dX11_highOnes_99 : decode cX11_highOnes 99 = .ok (.if_icmp .ne 7, 3) := by decide +kernel
theorem dX11_highOnes_102 : decode cX11_highOnes 102 = .ok (.iconst 1, 1) := by decide +kernel
theorem dX11_highOnes_103 : decode cX11_highOnes 103 = .ok (.goto 4, 3) := by decide +kernel
theorem dX11_highOnes_106 : decode cX11_highOnes 106 = .ok (.iconst 0, 1) := by decide +kernel
theorem dX11_highOnes_107 : decode cX11_highOnes 107 = .ok (.invokevirtual 184, 3) := by decide +kernel
theorem dX11_highOnes_110 : decode cX11_highOnes 110 = .ok (.return_, 1) := by decide +kernel
theorem dX11_byRegisters_0 : decode cX11_byRegisters 0 = .ok (.iload_n 1, 1) := by decide +kernel
theorem dX11_byRegisters_1 : decode cX11_byRegisters 1 = .ok (.iconst 2, 1) := by decide +kernel
theorem dX11_byRegisters_2 : decode cX11_byRegisters 2 = .ok (.if_icmp .le 7, 3) := by decide +kernel
theorem dX11_byRegisters_5 : decode cX11_byRegisters 5 = .ok (.iconst 1, 1) := by decide +kernel
theorem dX11_byRegisters_6 : decode cX11_byRegisters 6 = .ok (.goto 4, 3) := by decide +kernel
theorem dX11_byRegisters_9 : decode cX11_byRegisters 9 = .ok (.iconst 0, 1) := by decide +kernel
theorem dX11_byRegisters_10 : decode cX11_byRegisters 10 = .ok (.istore 4, 2) := by decide +kernel
theorem dX11_byRegisters_12 : decode cX11_byRegisters 12 = .ok (.iload_n 1, 1) := by decide +kernel
theorem dX11_byRegisters_13 : decode cX11_byRegisters 13 = .ok (.ifCond .eq 8, 3) := by decide +kernel
theorem dX11_byRegisters_16 : decode cX11_byRegisters 16 = .ok (.iload_n 1, 1) := by decide +kernel
theorem dX11_byRegisters_17 : decode cX11_byRegisters 17 = .ok (.iconst 4, 1) := by decide +kernel
theorem dX11_byRegisters_18 : decode cX11_byRegisters 18 = .ok (.if_icmp .ne 7, 3) := by decide +kernel
theorem dX11_byRegisters_21 : decode cX11_byRegisters 21 = .ok (.iconst 4, 1) := by decide +kernel
theorem dX11_byRegisters_22 : decode cX11_byRegisters 22 = .ok (.goto 38, 3) := by decide +kernel
theorem dX11_byRegisters_25 : decode cX11_byRegisters 25 = .ok (.iload_n 1, 1) := by decide +kernel
theorem dX11_byRegisters_26 : decode cX11_byRegisters 26 = .ok (.iconst 1, 1) := by decide +kernel
theorem dX11_byRegisters_27 : decode cX11_byRegisters 27 = .ok (.if_icmp .eq 8, 3) := by decide +kernel
theorem dX11_byRegisters_30 : decode cX11_byRegisters 30 = .ok (.iload_n 1, 1) := by decide +kernel
theorem dX11_byRegisters_31 : decode cX11_byRegisters 31 = .ok (.iconst 5, 1) := by decide +kernel
theorem dX11_byRegisters_32 : decode cX11_byRegisters 32 = .ok (.if_icmp .ne 7, 3) := by decide +kernel
theorem dX11_byRegisters_35 : decode cX11_byRegisters 35 = .ok (.iconst 2, 1) := by decide +kernel
theorem dX11_byRegisters_36 : decode cX11_byRegisters 36 = .ok (.goto 24, 3) := by decide +kernel
theorem dX11_byRegisters_39 : decode cX11_byRegisters 39 = .ok (.iload_n 1, 1) := by decide +kernel
theorem dX11_byRegisters_40 : decode cX11_byRegisters 40 = .ok (.iconst 3, 1) := by decide +kernel
theorem dX11_byRegisters_41 : decode cX11_byRegisters 41 = .ok (.if_icmp .ne 7, 3) := by decide +kernel
theorem dX11_byRegisters_44 : decode cX11_byRegisters 44 = .ok (.iconst (-1), 1) := by decide +kernel
theorem dX11_byRegisters_45 : decode cX11_byRegisters 45 = .ok (.goto 15, 3) := by decide +kernel
theorem dX11_byRegisters_48 : decode cX11_byRegisters 48 = .ok (.iload_n 1, 1) := by decide +kernel
theorem dX11_byRegisters_49 : decode cX11_byRegisters 49 = .ok (.bipush 7, 2) := by decide +kernel
theorem dX11_byRegisters_51 : decode cX11_byRegisters 51 = .ok (.if_icmp .ne 8, 3) := by decide +kernel
theorem dX11_byRegisters_54 : decode cX11_byRegisters 54 = .ok (.bipush (-2), 2) := by decide +kernel
theorem dX11_byRegisters_56 : decode cX11_byRegisters 56 = .ok (.goto 4, 3) := by decide +kernel
theorem dX11_byRegisters_59 : decode cX11_byRegisters 59 = .ok (.iconst 1, 1) := by decide +kernel
theorem dX11_byRegisters_60 : decode cX11_byRegisters 60 = .ok (.istore 5, 2) := by decide +kernel
theorem dX11_byRegisters_62 : decode cX11_byRegisters 62 = .ok (.aload_n 0, 1) := by decide +kernel
theorem dX11_byRegisters_63 : decode cX11_byRegisters 63 = .ok (.iload 4, 2) := by decide +kernel
theorem dX11_byRegisters_65 : decode cX11_byRegisters 65 = .ok (.iload 5, 2) := by decide +kernel
theorem dX11_byRegisters_67 : decode cX11_byRegisters 67 = .ok (.iload_n 2, 1) := by decide +kernel
theorem dX11_byRegisters_68 : decode cX11_byRegisters 68 = .ok (.iload_n 3, 1) := by decide +kernel
theorem dX11_byRegisters_69 : decode cX11_byRegisters 69 = .ok (.iconst (-1), 1) := by decide +kernel
theorem dX11_byRegisters_70 : decode cX11_byRegisters 70 = .ok (.iconst 0, 1) := by decide +kernel
theorem dX11_byRegisters_71 : decode cX11_byRegisters 71 = .ok (.invokevirtual 227, 3) := by decide +kernel
theorem dX11_byRegisters_74 : decode cX11_byRegisters 74 = .ok (.return_, 1) := by decide +kernel
theorem dX11_stack_0 : decode cX11_stack 0 = .ok (.iload_n 1, 1) := by decide +kernel
theorem dX11_stack_1 : decode cX11_stack 1 = .ok (.bipush 9, 2) := by decide +kernel
theorem dX11_stack_3 : decode cX11_stack 3 = .ok (.ishr, 1) := by decide +kernel
theorem dX11_stack_4 : decode cX11_stack 4 = .ok (.istore_n 2, 1) := by decide +kernel
theorem dX11_stack_5 : decode cX11_stack 5 = .ok (.iload_n 1, 1) := by decide +kernel
theorem dX11_stack_6 : decode cX11_stack 6 = .ok (.bipush 8, 2) := by decide +kernel
theorem dX11_stack_8 : decode cX11_stack 8 = .ok (.ishr, 1) := by decide +kernel
theorem dX11_stack_9 : decode cX11_stack 9 = .ok (.iconst 1, 1) := by decide +kernel
theorem dX11_stack_10 : decode cX11_stack 10 = .ok (.iand, 1) := by decide +kernel
theorem dX11_stack_11 : decode cX11_stack 11 = .ok (.iconst 1, 1) := by decide +kernel
theorem dX11_stack_12 : decode cX11_stack 12 = .ok (.if_icmp .ne 7, 3) := by decide +kernel
theorem dX11_stack_15 : decode cX11_stack 15 = .ok (.iconst 1, 1) := by decide +kernel
theorem dX11_stack_16 : decode cX11_stack 16 = .ok (.goto 4, 3) := by decide +kernel
theorem dX11_stack_19 : decode cX11_stack 19 = .ok (.iconst 0, 1) := by decide +kernel
theorem dX11_stack_20 : decode cX11_stack 20 = .ok (.istore_n 3, 1) := by decide +kernel
theorem dX11_stack_21 : decode cX11_stack 21 = .ok (.iload_n 1, 1) := by decide +kernel
theorem dX11_stack_22 : decode cX11_stack 22 = .ok (.sipush 255, 3) := by decide +kernel
theorem dX11_stack_25 : decode cX11_stack 25 = .ok (.iand, 1) := by decide +kernel
theorem dX11_stack_26 : decode cX11_stack 26 = .ok (.istore 4, 2) := by decide +kernel
theorem dX11_stack_28 : decode cX11_stack 28 = .ok (.iload_n 1, 1) := by decide +kernel
theorem dX11_stack_29 : decode cX11_stack 29 = .ok (.bipush 8, 2) := by decide +kernel
theorem dX11_stack_31 : decode cX11_stack 31 = .ok (.ishr, 1) := by decide +kernel
theorem dX11_stack_32 : decode cX11_stack 32 = .ok (.sipush 176, 3) := by decide +kernel
theorem dX11_stack_35 : decode cX11_stack 35 = .ok (.if_icmp .ne 51, 3) := by decide +kernel
theorem dX11_stack_38 : decode cX11_stack 38 = .ok (.aload_n 0, 1) := by decide +kernel
theorem dX11_stack_39 : decode cX11_stack 39 = .ok (.bipush 13, 2) := by decide +kernel
theorem dX11_stack_41 : decode cX11_stack 41 = .ok (.iload_n 1, 1) := by decide +kernel
theorem dX11_stack_42 : decode cX11_stack 42 = .ok (.bipush 7, 2) := by decide +kernel
theorem dX11_stack_44 : decode cX11_stack 44 = .ok (.ishr, 1) := by decide +kernel
theorem dX11_stack_45 : decode cX11_stack 45 = .ok (.iconst 1, 1) := by decide +kernel
theorem dX11_stack_46 : decode cX11_stack 46 = .ok (.iand, 1) := by decide +kernel
theorem dX11_stack_47 : decode cX11_stack 47 = .ok (.iconst 1, 1) := by decide +kernel
theorem dX11_stack_48 : decode cX11_stack 48 = .ok (.if_icmp .ne 19, 3) := by decide +kernel
theorem dX11_stack_51 : decode cX11_stack 51 = .ok (.aload_n 0, 1) := by decide +kernel
theorem dX11_stack_52 : decode cX11_stack 52 = .ok (.bipush 13, 2) := by decide +kernel
theorem dX11_stack_54 : decode cX11_stack 54 = .ok (.invokevirtual 49, 3) := by decide +kernel
theorem dX11_stack_57 : decode cX11_stack 57 = .ok (.iconst 4, 1) := by decide +kernel
theorem dX11_stack_58 : decode cX11_stack 58 = .ok (.iload_n 1, 1) := by decide +kernel
theorem dX11_stack_59 : decode cX11_stack 59 = .ok (.bipush 127, 2) := by decide +kernel
theorem dX11_stack_61 : decode cX11_stack 61 = .ok (.iand, 1) := by decide +kernel
theorem dX11_stack_62 : decode cX11_stack 62 = .ok (.imul, 1) := by decide +kernel
theorem dX11_stack_63 : decode cX11_stack 63 = .ok (.isub, 1) := by decide +kernel
theorem dX11_stack_64 : decode cX11_stack 64 = .ok (.goto 16, 3) := by decide +kernel
theorem dX11_stack_67 : decode cX11_stack 67 = .ok (.aload_n 0, 1) := by decide +kernel
theorem dX11_stack_68 : decode cX11_stack 68 = .ok (.bipush 13, 2) := by decide +kernel
theorem dX11_stack_70 : decode cX11_stack 70 = .ok (.invokevirtual 49, 3) := by decide +kernel
theorem dX11_stack_73 : decode cX11_stack 73 = .ok (.iconst 4, 1) := by decide +kernel
theorem dX11_stack_74 : decode cX11_stack 74 = .ok (.iload_n 1, 1) := by decide +kernel
theorem dX11_stack_75 : decode cX11_stack 75 = .ok (.bipush 127, 2) := by decide +kernel
theorem dX11_stack_77 : decode cX11_stack 77 = .ok (.iand, 1) := by decide +kernel
theorem dX11_stack_78 : decode cX11_stack 78 = .ok (.imul, 1) := by decide +kernel
theorem dX11_stack_79 : decode cX11_stack 79 = .ok (.iadd, 1) := by decide +kernel
theorem dX11_stack_80 : decode cX11_stack 80 = .ok (.invokevirtual 135, 3) := by decide +kernel
theorem dX11_stack_83 : decode cX11_stack 83 = .ok (.goto 77, 3) := by decide +kernel
theorem dX11_stack_86 : decode cX11_stack 86 = .ok (.iload_n 2, 1) := by decide +kernel
theorem dX11_stack_87 : decode cX11_stack 87 = .ok (.bipush 90, 2) := by decide +kernel
theorem dX11_stack_89 : decode cX11_stack 89 = .ok (.if_icmp .ne 32, 3) := by decide +kernel
theorem dX11_stack_92 : decode cX11_stack 92 = .ok (.aload_n 0, 1) := by decide +kernel
theorem dX11_stack_93 : decode cX11_stack 93 = .ok (.iconst 0, 1) := by decide +kernel
theorem dX11_stack_94 : decode cX11_stack 94 = .ok (.bipush 13, 2) := by decide +kernel
theorem dX11_stack_96 : decode cX11_stack 96 = .ok (.iload_n 3, 1) := by decide +kernel
theorem dX11_stack_97 : decode cX11_stack 97 = .ok (.ifCond .eq 12, 3) := by decide +kernel
theorem dX11_stack_100 : decode cX11_stack 100 = .ok (.iload 4, 2) := by decide +kernel
theorem dX11_stack_102 : decode cX11_stack 102 = .ok (.sipush 16384, 3) := by decide +kernel
theorem dX11_stack_105 : decode cX11_stack 105 = .ok (.ior, 1) := by decide +kernel
theorem dX11_stack_106 : decode cX11_stack 106 = .ok (.goto 5, 3) := by decide +kernel
theorem dX11_stack_109 : decode cX11_stack 109 = .ok (.iload 4, 2) := by decide +kernel
theorem dX11_stack_111 : decode cX11_stack 111 = .ok (.iconst 0, 1) := by decide +kernel
theorem dX11_stack_112 : decode cX11_stack 112 = .ok (.iconst 1, 1) := by decide +kernel
theorem dX11_stack_113 : decode cX11_stack 113 = .ok (.iconst 1, 1) := by decide +kernel
theorem dX11_stack_114 : decode cX11_stack 114 = .ok (.iconst 0, 1) := by decide +kernel
theorem dX11_stack_115 : decode cX11_stack 115 = .ok (.invokevirtual 220, 3) := by decide +kernel
theorem dX11_stack_118 : decode cX11_stack 118 = .ok (.goto 42, 3) := by decide +kernel
theorem dX11_stack_121 : decode cX11_stack 121 = .ok (.iload_n 2, 1) := by decide +kernel
theorem dX11_stack_122 : decode cX11_stack 122 = .ok (.bipush 94, 2) := by decide +kernel
theorem dX11_stack_124 : decode cX11_stack 124 = .ok (.if_icmp .ne 32, 3) := by decide +kernel
theorem dX11_stack_127 : decode cX11_stack 127 = .ok (.aload_n 0, 1) := by decide +kernel
theorem dX11_stack_128 : decode cX11_stack 128 = .ok (.iconst 1, 1) := by decide +kernel
theorem dX11_stack_129 : decode cX11_stack 129 = .ok (.bipush 13, 2) := by decide +kernel
theorem dX11_stack_131 : decode cX11_stack 131 = .ok (.iload_n 3, 1) := by decide +kernel
theorem dX11_stack_132 : decode cX11_stack 132 = .ok (.ifCond .eq 12, 3) := by decide +kernel
theorem dX11_stack_135 : decode cX11_stack 135 = .ok (.iload 4, 2) := by decide +kernel
theorem dX11_stack_137 : decode cX11_stack 137 = .ok (.ldc_w 270, 3) := by decide +kernel
theorem dX11_stack_140 : decode cX11_stack 140 = .ok (.ior, 1) := by decide +kernel
theorem dX11_stack_141 : decode cX11_stack 141 = .ok (.goto 5, 3) := by decide +kernel
theorem dX11_stack_144 : decode cX11_stack 144 = .ok (.iload 4, 2) := by decide +kernel
theorem dX11_stack_146 : decode cX11_stack 146 = .ok (.iconst 1, 1) := by decide +kernel
theorem dX11_stack_147 : decode cX11_stack 147 = .ok (.iconst 0, 1) := by decide +kernel
theorem dX11_stack_148 : decode cX11_stack 148 = .ok (.iconst 1, 1) := by decide +kernel
theorem dX11_stack_149 : decode cX11_stack 149 = .ok (.iconst 0, 1) := by decide +kernel
theorem dX11_stack_150 : decode cX11_stack 150 = .ok (.invokevirtual 220, 3) := by decide +kernel
theorem dX11_stack_153 : decode cX11_stack 153 = .ok (.goto 7, 3) := by decide +kernel
theorem dX11_stack_156 : decode cX11_stack 156 = .ok (.aload_n 0, 1) := by decide +kernel
theorem dX11_stack_157 : decode cX11_stack 157 = .ok (.invokevirtual 172, 3) := by decide +kernel
theorem dX11_stack_160 : decode cX11_stack 160 = .ok (.return_, 1) := by decide +kernel
theorem dX11_conditional_0 : decode cX11_conditional 0 = .ok (.iload_n 1, 1) := by decide +kernel
theorem dX11_conditional_1 : decode cX11_conditional 1 = .ok (.bipush 15, 2) := by decide +kernel
theorem dX11_conditional_3 : decode cX11_conditional 3 = .ok (.if_icmp .ne 11, 3) := by decide +kernel
theorem dX11_conditional_6 : decode cX11_conditional 6 = .ok (.aload_n 0, 1) := by decide +kernel
theorem dX11_conditional_7 : decode cX11_conditional 7 = .ok (.iconst 1, 1) := by decide +kernel
theorem dX11_conditional_8 : decode cX11_conditional 8 = .ok (.putfield 103, 3) := by decide +kernel
theorem dX11_conditional_11 : decode cX11_conditional 11 = .ok (.goto 46, 3) := by decide +kernel
theorem dX11_conditional_14 : decode cX11_conditional 14 = .ok (.iload_n 1, 1) := by decide +kernel
theorem dX11_conditional_15 : decode cX11_conditional 15 = .ok (.bipush 14, 2) := by decide +kernel
theorem dX11_conditional_17 : decode cX11_conditional 17 = .ok (.if_icmp .ne 10, 3) := by decide +kernel
theorem dX11_conditional_20 : decode cX11_conditional 20 = .ok (.aload_n 0, 1) := by decide +kernel
theorem dX11_conditional_21 : decode cX11_conditional 21 = .ok (.invokevirtual 172, 3) := by decide +kernel
theorem dX11_conditional_24 : decode cX11_conditional 24 = .ok (.goto 33, 3) := by decide +kernel
theorem dX11_conditional_27 : decode cX11_conditional 27 = .ok (.aload_n 0, 1) := by decide +kernel
theorem dX11_conditional_28 : decode cX11_conditional 28 = .ok (.iload_n 1, 1) := by decide +kernel
theorem dX11_conditional_29 : decode cX11_conditional 29 = .ok (.invokevirtual 188, 3) := by decide +kernel
theorem dX11_conditional_32 : decode cX11_conditional 32 = .ok (.ifCond .eq 25, 3) := by decide +kernel
theorem dX11_conditional_35 : decode cX11_conditional 35 = .ok (.aload_n 0, 1) := by decide +kernel
theorem dX11_conditional_36 : decode cX11_conditional 36 = .ok (.bipush 15, 2) := by decide +kernel
theorem dX11_conditional_38 : decode cX11_conditional 38 = .ok (.aload_n 0, 1) := by decide +kernel
theorem dX11_conditional_39 : decode cX11_conditional 39 = .ok (.getfield 46, 3) := by decide +kernel
theorem dX11_conditional_42 : decode cX11_conditional 42 = .ok (.iconst 4, 1) := by decide +kernel
theorem dX11_conditional_43 : decode cX11_conditional 43 = .ok (.iadd, 1) := by decide +kernel
theorem dX11_conditional_44 : decode cX11_conditional 44 = .ok (.iconst 2, 1) := by decide +kernel
theorem dX11_conditional_45 : decode cX11_conditional 45 = .ok (.iload_n 2, 1) := by decide +kernel
theorem dX11_conditional_46 : decode cX11_conditional 46 = .ok (.bipush 24, 2) := by decide +kernel
theorem dX11_conditional_48 : decode cX11_conditional 48 = .ok (.ishl, 1) := by decide +kernel
theorem dX11_conditional_49 : decode cX11_conditional 49 = .ok (.bipush 24, 2) := by decide +kernel
theorem dX11_conditional_51 : decode cX11_conditional 51 = .ok (.ishr, 1) := by decide +kernel
theorem dX11_conditional_52 : decode cX11_conditional 52 = .ok (.imul, 1) := by decide +kernel
theorem dX11_conditional_53 : decode cX11_conditional 53 = .ok (.iadd, 1) := by decide +kernel
theorem dX11_conditional_54 : decode cX11_conditional 54 = .ok (.invokevirtual 135, 3) := by decide +kernel
theorem dX11_conditional_57 : decode cX11_conditional 57 = .ok (.return_, 1) := by decide +kernel
theorem dX11_far_0 : decode cX11_far 0 = .ok (.iload_n 1, 1) := by decide +kernel
theorem dX11_far_1 : decode cX11_far 1 = .ok (.bipush 11, 2) := by decide +kernel
theorem dX11_far_3 : decode cX11_far 3 = .ok (.ishr, 1) := by decide +kernel
theorem dX11_far_4 : decode cX11_far 4 = .ok (.istore_n 2, 1) := by decide +kernel
theorem dX11_far_5 : decode cX11_far 5 = .ok (.iload_n 1, 1) := by decide +kernel
theorem dX11_far_6 : decode cX11_far 6 = .ok (.bipush 21, 2) := by decide +kernel
theorem dX11_far_8 : decode cX11_far 8 = .ok (.ishl, 1) := by decide +kernel
theorem dX11_far_9 : decode cX11_far 9 = .ok (.bipush 21, 2) := by decide +kernel
theorem dX11_far_11 : decode cX11_far 11 = .ok (.ishr, 1) := by decide +kernel
theorem dX11_far_12 : decode cX11_far 12 = .ok (.istore_n 3, 1) := by decide +kernel
theorem dX11_far_13 : decode cX11_far 13 = .ok (.iload_n 2, 1) := by decide +kernel
theorem dX11_far_14 : decode cX11_far 14 = .ok (.bipush 28, 2) := by decide +kernel
theorem dX11_far_16 : decode cX11_far 16 = .ok (.if_icmp .ne 22, 3) := by decide +kernel
theorem dX11_far_19 : decode cX11_far 19 = .ok (.aload_n 0, 1) := by decide +kernel
theorem dX11_far_20 : decode cX11_far 20 = .ok (.bipush 15, 2) := by decide +kernel
theorem dX11_far_22 : decode cX11_far 22 = .ok (.aload_n 0, 1) := by decide +kernel
theorem dX11_far_23 : decode cX11_far 23 = .ok (.getfield 46, 3) := by decide +kernel
theorem dX11_far_26 : decode cX11_far 26 = .ok (.iconst 4, 1) := by decide +kernel
theorem dX11_far_27 : decode cX11_far 27 = .ok (.iadd, 1) := by decide +kernel
theorem dX11_far_28 : decode cX11_far 28 = .ok (.iconst 2, 1) := by decide +kernel
theorem dX11_far_29 : decode cX11_far 29 = .ok (.iload_n 3, 1) := by decide +kernel
theorem dX11_far_30 : decode cX11_far 30 = .ok (.imul, 1) := by decide +kernel
theorem dX11_far_31 : decode cX11_far 31 = .ok (.iadd, 1) := by decide +kernel
theorem dX11_far_32 : decode cX11_far 32 = .ok (.invokevirtual 135, 3) := by decide +kernel
theorem dX11_far_35 : decode cX11_far 35 = .ok (.goto 81, 3) := by decide +kernel
theorem dX11_far_38 : decode cX11_far 38 = .ok (.iload_n 2, 1) := by decide +kernel
theorem dX11_far_39 : decode cX11_far 39 = .ok (.bipush 30, 2) := by decide +kernel
theorem dX11_far_41 : decode cX11_far 41 = .ok (.if_icmp .ne 24, 3) := by decide +kernel
theorem dX11_far_44 : decode cX11_far 44 = .ok (.aload_n 0, 1) := by decide +kernel
theorem dX11_far_45 : decode cX11_far 45 = .ok (.bipush 14, 2) := by decide +kernel
theorem dX11_far_47 : decode cX11_far 47 = .ok (.aload_n 0, 1) := by decide +kernel
theorem dX11_far_48 : decode cX11_far 48 = .ok (.getfield 46, 3) := by decide +kernel
theorem dX11_far_51 : decode cX11_far 51 = .ok (.iconst 4, 1) := by decide +kernel
theorem dX11_far_52 : decode cX11_far 52 = .ok (.iadd, 1) := by decide +kernel
theorem dX11_far_53 : decode cX11_far 53 = .ok (.sipush 4096, 3) := by decide +kernel
theorem dX11_far_56 : decode cX11_far 56 = .ok (.iload_n 3, 1) := by decide +kernel
theorem dX11_far_57 : decode cX11_far 57 = .ok (.imul, 1) := by decide +kernel
theorem dX11_far_58 : decode cX11_far 58 = .ok (.iadd, 1) := by decide +kernel
theorem dX11_far_59 : decode cX11_far 59 = .ok (.invokevirtual 135, 3) := by decide +kernel
theorem dX11_far_62 : decode cX11_far 62 = .ok (.goto 54, 3) := by decide +kernel
theorem dX11_far_65 : decode cX11_far 65 = .ok (.iload_n 2, 1) := by decide +kernel
theorem dX11_far_66 : decode cX11_far 66 = .ok (.bipush 31, 2) := by decide +kernel
theorem dX11_far_68 : decode cX11_far 68 = .ok (.if_icmp .ne 44, 3) := by decide +kernel
theorem dX11_far_71 : decode cX11_far 71 = .ok (.aload_n 0, 1) := by decide +kernel
theorem dX11_far_72 : decode cX11_far 72 = .ok (.bipush 14, 2) := by decide +kernel
theorem dX11_far_74 : decode cX11_far 74 = .ok (.invokevirtual 49, 3) := by decide +kernel
theorem dX11_far_77 : decode cX11_far 77 = .ok (.iconst 2, 1) := by decide +kernel
theorem dX11_far_78 : decode cX11_far 78 = .ok (.iload_n 1, 1) := by decide +kernel
theorem dX11_far_79 : decode cX11_far 79 = .ok (.sipush 2047, 3) := by decide +kernel
theorem dX11_far_82 : decode cX11_far 82 = .ok (.iand, 1) := by decide +kernel
theorem dX11_far_83 : decode cX11_far 83 = .ok (.imul, 1) := by decide +kernel
theorem dX11_far_84 : decode cX11_far 84 = .ok (.iadd, 1) := by decide +kernel
theorem dX11_far_85 : decode cX11_far 85 = .ok (.istore 4, 2) := by decide +kernel
theorem dX11_far_87 : decode cX11_far 87 = .ok (.aload_n 0, 1) := by decide +kernel
theorem dX11_far_88 : decode cX11_far 88 = .ok (.bipush 14, 2) := by decide +kernel
theorem dX11_far_90 : decode cX11_far 90 = .ok (.aload_n 0, 1) := by decide +kernel
theorem dX11_far_91 : decode cX11_far 91 = .ok (.getfield 46, 3) := by decide +kernel
theorem dX11_far_94 : decode cX11_far 94 = .ok (.iconst 2, 1) := by decide +kernel
theorem dX11_far_95 : decode cX11_far 95 = .ok (.iadd, 1) := by decide +kernel
theorem dX11_far_96 : decode cX11_far 96 = .ok (.iconst 1, 1) := by decide +kernel
theorem dX11_far_97 : decode cX11_far 97 = .ok (.ior, 1) := by decide +kernel
theorem dX11_far_98 : decode cX11_far 98 = .ok (.invokevirtual 135, 3) := by decide +kernel
theorem dX11_far_101 : decode cX11_far 101 = .ok (.aload_n 0, 1) := by decide +kernel
theorem dX11_far_102 : decode cX11_far 102 = .ok (.bipush 15, 2) := by decide +kernel
theorem dX11_far_104 : decode cX11_far 104 = .ok (.iload 4, 2) := by decide +kernel
theorem dX11_far_106 : decode cX11_far 106 = .ok (.invokevirtual 135, 3) := by decide +kernel
theorem dX11_far_109 : decode cX11_far 109 = .ok (.goto 7, 3) := by decide +kernel
theorem dX11_far_112 : decode cX11_far 112 = .ok (.aload_n 0, 1) := by decide +kernel
theorem dX11_far_113 : decode cX11_far 113 = .ok (.invokevirtual 172, 3) := by decide +kernel
theorem dX11_far_116 : decode cX11_far 116 = .ok (.return_, 1) := by decide +kernel
theorem dX11_count_0 : decode cX11_count 0 = .ok (.aload_n 0, 1) := by decide +kernel
theorem dX11_count_1 : decode cX11_count 1 = .ok (.iconst 0, 1) := by decide +kernel
theorem dX11_count_2 : decode cX11_count 2 = .ok (.putfield 31, 3) := by decide +kernel
theorem dX11_count_5 : decode cX11_count 5 = .ok (.iload_n 1, 1) := by decide +kernel
theorem dX11_count_6 : decode cX11_count 6 = .ok (.iconst 0, 1) := by decide +kernel
theorem dX11_count_7 : decode cX11_count 7 = .ok (.bipush 7, 2) := by decide +kernel
theorem dX11_count_9 : decode cX11_count 9 = .ok (.invokestatic 81, 3) := by decide +kernel
theorem dX11_count_12 : decode cX11_count 12 = .ok (.ifCond .ne 9, 3) := by decide +kernel
theorem dX11_count_15 : decode cX11_count 15 = .ok (.aload_n 0, 1) := by decide +kernel
theorem dX11_count_16 : decode cX11_count 16 = .ok (.iconst 1, 1) := by decide +kernel
theorem dX11_count_17 : decode cX11_count 17 = .ok (.invokevirtual 77, 3) := by decide +kernel
theorem dX11_count_20 : decode cX11_count 20 = .ok (.ireturn, 1) := by decide +kernel
theorem dX11_count_21 : decode cX11_count 21 = .ok (.iload_n 1, 1) := by decide +kernel
theorem dX11_count_22 : decode cX11_count 22 = .ok (.bipush 6, 2) := by decide +kernel
theorem dX11_count_24 : decode cX11_count 24 = .ok (.if_icmp .ge 12, 3) := by decide +kernel
theorem dX11_count_27 : decode cX11_count 27 = .ok (.aload_n 0, 1) := by decide +kernel
theorem dX11_count_28 : decode cX11_count 28 = .ok (.getfield 28, 3) := by decide +kernel
theorem dX11_count_31 : decode cX11_count 31 = .ok (.iload_n 1, 1) := by decide +kernel
theorem dX11_count_32 : decode cX11_count 32 = .ok (.iaload, 1) := by decide +kernel
theorem dX11_count_33 : decode cX11_count 33 = .ok (.goto 20, 3) := by decide +kernel
theorem dX11_count_36 : decode cX11_count 36 = .ok (.iload_n 1, 1) := by decide +kernel
theorem dX11_count_37 : decode cX11_count 37 = .ok (.bipush 6, 2) := by decide +kernel
theorem dX11_count_39 : decode cX11_count 39 = .ok (.if_icmp .ne 10, 3) := by decide +kernel
theorem dX11_count_42 : decode cX11_count 42 = .ok (.aload_n 0, 1) := by decide +kernel
theorem dX11_count_43 : decode cX11_count 43 = .ok (.getfield 89, 3) := by decide +kernel
theorem dX11_count_46 : decode cX11_count 46 = .ok (.goto 7, 3) := by decide +kernel
theorem dX11_count_49 : decode cX11_count 49 = .ok (.aload_n 0, 1) := by decide +kernel
theorem dX11_count_50 : decode cX11_count 50 = .ok (.getfield 20, 3) := by decide +kernel
theorem dX11_count_53 : decode cX11_count 53 = .ok (.ireturn, 1) := by decide +kernel
theorem dJ6_bitCount_0f7a4_0 : decode cJ6_bitCount_0f7a4 0 = .ok (.iload_n 0, 1) := by decide +kernel
theorem dJ6_bitCount_0f7a4_1 : decode cJ6_bitCount_0f7a4 1 = .ok (.iload_n 0, 1) := by decide +kernel
theorem dJ6_bitCount_0f7a4_2 : decode cJ6_bitCount_0f7a4 2 = .ok (.iconst 1, 1) := by decide +kernel
theorem dJ6_bitCount_0f7a4_3 : decode cJ6_bitCount_0f7a4 3 = .ok (.iushr, 1) := by decide +kernel
theorem dJ6_bitCount_0f7a4_4 : decode cJ6_bitCount_0f7a4 4 = .ok (.ldc_w 265, 3) := by decide +kernel
theorem dJ6_bitCount_0f7a4_7 : decode cJ6_bitCount_0f7a4 7 = .ok (.iand, 1) := by decide +kernel
theorem dJ6_bitCount_0f7a4_8 : decode cJ6_bitCount_0f7a4 8 = .ok (.isub, 1) := by decide +kernel
theorem dJ6_bitCount_0f7a4_9 : decode cJ6_bitCount_0f7a4 9 = .ok (.istore_n 0, 1) := by decide +kernel
theorem dJ6_bitCount_0f7a4_10 : decode cJ6_bitCount_0f7a4 10 = .ok (.iload_n 0, 1) := by decide +kernel
theorem dJ6_bitCount_0f7a4_11 : decode cJ6_bitCount_0f7a4 11 = .ok (.ldc_w 266, 3) := by decide +kernel
theorem dJ6_bitCount_0f7a4_14 : decode cJ6_bitCount_0f7a4 14 = .ok (.iand, 1) := by decide +kernel
theorem dJ6_bitCount_0f7a4_15 : decode cJ6_bitCount_0f7a4 15 = .ok (.iload_n 0, 1) := by decide +kernel
theorem dJ6_bitCount_0f7a4_16 : decode cJ6_bitCount_0f7a4 16 = .ok (.iconst 2, 1) := by decide +kernel
theorem dJ6_bitCount_0f7a4_17 : decode cJ6_bitCount_0f7a4 17 = .ok (.iushr, 1) := by decide +kernel
theorem dJ6_bitCount_0f7a4_18 : decode cJ6_bitCount_0f7a4 18 = .ok (.ldc_w 266, 3) := by decide +kernel
theorem dJ6_bitCount_0f7a4_21 : decode cJ6_bitCount_0f7a4 21 = .ok (.iand, 1) := by decide +kernel
theorem dJ6_bitCount_0f7a4_22 : decode cJ6_bitCount_0f7a4 22 = .ok (.iadd, 1) := by decide +kernel
theorem dJ6_bitCount_0f7a4_23 : decode cJ6_bitCount_0f7a4 23 = .ok (.istore_n 0, 1) := by decide +kernel
theorem dJ6_bitCount_0f7a4_24 : decode cJ6_bitCount_0f7a4 24 = .ok (.iload_n 0, 1) := by decide +kernel
theorem dJ6_bitCount_0f7a4_25 : decode cJ6_bitCount_0f7a4 25 = .ok (.iload_n 0, 1) := by decide +kernel
theorem dJ6_bitCount_0f7a4_26 : decode cJ6_bitCount_0f7a4 26 = .ok (.iconst 4, 1) := by decide +kernel
theorem dJ6_bitCount_0f7a4_27 : decode cJ6_bitCount_0f7a4 27 = .ok (.iushr, 1) := by decide +kernel
theorem dJ6_bitCount_0f7a4_28 : decode cJ6_bitCount_0f7a4 28 = .ok (.iadd, 1) := by decide +kernel
theorem dJ6_bitCount_0f7a4_29 : decode cJ6_bitCount_0f7a4 29 = .ok (.ldc_w 267, 3) := by decide +kernel
theorem dJ6_bitCount_0f7a4_32 : decode cJ6_bitCount_0f7a4 32 = .ok (.iand, 1) := by decide +kernel
theorem dJ6_bitCount_0f7a4_33 : decode cJ6_bitCount_0f7a4 33 = .ok (.istore_n 0, 1) := by decide +kernel
theorem dJ6_bitCount_0f7a4_34 : decode cJ6_bitCount_0f7a4 34 = .ok (.iload_n 0, 1) := by decide +kernel
theorem dJ6_bitCount_0f7a4_35 : decode cJ6_bitCount_0f7a4 35 = .ok (.iload_n 0, 1) := by decide +kernel
theorem dJ6_bitCount_0f7a4_36 : decode cJ6_bitCount_0f7a4 36 = .ok (.bipush 8, 2) := by decide +kernel
theorem dJ6_bitCount_0f7a4_38 : decode cJ6_bitCount_0f7a4 38 = .ok (.iushr, 1) := by decide +kernel
theorem dJ6_bitCount_0f7a4_39 : decode cJ6_bitCount_0f7a4 39 = .ok (.iadd, 1) := by decide +kernel
theorem dJ6_bitCount_0f7a4_40 : decode cJ6_bitCount_0f7a4 40 = .ok (.istore_n 0, 1) := by decide +kernel
theorem dJ6_bitCount_0f7a4_41 : decode cJ6_bitCount_0f7a4 41 = .ok (.iload_n 0, 1) := by decide +kernel
theorem dJ6_bitCount_0f7a4_42 : decode cJ6_bitCount_0f7a4 42 = .ok (.iload_n 0, 1) := by decide +kernel
theorem dJ6_bitCount_0f7a4_43 : decode cJ6_bitCount_0f7a4 43 = .ok (.bipush 16, 2) := by decide +kernel
theorem dJ6_bitCount_0f7a4_45 : decode cJ6_bitCount_0f7a4 45 = .ok (.iushr, 1) := by decide +kernel
theorem dJ6_bitCount_0f7a4_46 : decode cJ6_bitCount_0f7a4 46 = .ok (.iadd, 1) := by decide +kernel
theorem dJ6_bitCount_0f7a4_47 : decode cJ6_bitCount_0f7a4 47 = .ok (.istore_n 0, 1) := by decide +kernel
theorem dJ6_bitCount_0f7a4_48 : decode cJ6_bitCount_0f7a4 48 = .ok (.iload_n 0, 1) := by decide +kernel
theorem dJ6_bitCount_0f7a4_49 : decode cJ6_bitCount_0f7a4 49 = .ok (.bipush 63, 2) := by decide +kernel
theorem dJ6_bitCount_0f7a4_51 : decode cJ6_bitCount_0f7a4 51 = .ok (.iand, 1) := by decide +kernel
theorem dJ6_bitCount_0f7a4_52 : decode cJ6_bitCount_0f7a4 52 = .ok (.ireturn, 1) := by decide +kernel
theorem dL_poke_0 : decode cL_poke 0 = .ok (.aload_n 3, 1) := by decide +kernel
theorem dL_poke_1 : decode cL_poke 1 = .ok (.iconst 0, 1) := by decide +kernel
theorem dL_poke_2 : decode cL_poke 2 = .ok (.aload_n 0, 1) := by decide +kernel
theorem dL_poke_3 : decode cL_poke 3 = .ok (.iload_n 1, 1) := by decide +kernel
theorem dL_poke_4 : decode cL_poke 4 = .ok (.iload_n 2, 1) := by decide +kernel
theorem dL_poke_5 : decode cL_poke 5 = .ok (.invokevirtual 7, 3) := by decide +kernel
theorem dL_poke_8 : decode cL_poke 8 = .ok (.i2l, 1) := by decide +kernel
theorem dL_poke_9 : decode cL_poke 9 = .ok (.lastore, 1) := by decide +kernel
theorem dL_poke_10 : decode cL_poke 10 = .ok (.goto 11, 3) := by decide +kernel
theorem dL_poke_13 : decode cL_poke 13 = .ok (.astore 4, 2) := by decide +kernel
theorem dL_poke_15 : decode cL_poke 15 = .ok (.iconst 1, 1) := by decide +kernel
theorem dL_poke_16 : decode cL_poke 16 = .ok (.ireturn, 1) := by decide +kernel
theorem dL_poke_17 : decode cL_poke 17 = .ok (.astore 4, 2) := by decide +kernel
theorem dL_poke_19 : decode cL_poke 19 = .ok (.iconst 2, 1) := by decide +kernel
theorem dL_poke_20 : decode cL_poke 20 = .ok (.ireturn, 1) := by decide +kernel
theorem dL_poke_21 : decode cL_poke 21 = .ok (.iconst 0, 1) := by decide +kernel
theorem dL_poke_22 : decode cL_poke 22 = .ok (.ireturn, 1) := by decide +kernel
theorem dL_peek_0 : decode cL_peek 0 = .ok (.aload_n 2, 1) := by decide +kernel
theorem dL_peek_1 : decode cL_peek 1 = .ok (.iconst 0, 1) := by decide +kernel
theorem dL_peek_2 : decode cL_peek 2 = .ok (.aload_n 0, 1) := by decide +kernel
theorem dL_peek_3 : decode cL_peek 3 = .ok (.iload_n 1, 1) := by decide +kernel
theorem dL_peek_4 : decode cL_peek 4 = .ok (.invokevirtual 17, 3) := by decide +kernel
theorem dL_peek_7 : decode cL_peek 7 = .ok (.i2l, 1) := by decide +kernel
theorem dL_peek_8 : decode cL_peek 8 = .ok (.lastore, 1) := by decide +kernel
theorem dL_peek_9 : decode cL_peek 9 = .ok (.goto 9, 3) := by decide +kernel
theorem dL_peek_12 : decode cL_peek 12 = .ok (.astore_n 3, 1) := by decide +kernel
theorem dL_peek_13 : decode cL_peek 13 = .ok (.iconst 1, 1) := by decide +kernel
theorem dL_peek_14 : decode cL_peek 14 = .ok (.ireturn, 1) := by decide +kernel
theorem dL_peek_15 : decode cL_peek 15 = .ok (.astore_n 3, 1) := by decide +kernel
theorem dL_peek_16 : decode cL_peek 16 = .ok (.iconst 2, 1) := by decide +kernel
theorem dL_peek_17 : decode cL_peek 17 = .ok (.ireturn, 1) := by decide +kernel
theorem dL_peek_18 : decode cL_peek 18 = .ok (.iconst 0, 1) := by decide +kernel
theorem dL_peek_19 : decode cL_peek 19 = .ok (.ireturn, 1) := by decide +kernel
theorem dL_set_0 : decode cL_set 0 = .ok (.aload_n 0, 1) := by decide +kernel
theorem dL_set_1 : decode cL_set 1 = .ok (.iload_n 1, 1) := by decide +kernel
theorem dL_set_2 : decode cL_set 2 = .ok (.iload_n 2, 1) := by decide +kernel
theorem dL_set_3 : decode cL_set 3 = .ok (.iload_n 3, 1) := by decide +kernel
theorem dL_set_4 : decode cL_set 4 = .ok (.invokevirtual 21, 3) := by decide +kernel
theorem dL_set_7 : decode cL_set 7 = .ok (.goto 11, 3) := by decide +kernel
theorem dL_set_10 : decode cL_set 10 = .ok (.astore 4, 2) := by decide +kernel
theorem dL_set_12 : decode cL_set 12 = .ok (.iconst 1, 1) := by decide +kernel
theorem dL_set_13 : decode cL_set 13 = .ok (.ireturn, 1) := by decide +kernel
theorem dL_set_14 : decode cL_set 14 = .ok (.astore 4, 2) := by decide +kernel
theorem dL_set_16 : decode cL_set 16 = .ok (.iconst 2, 1) := by decide +kernel
theorem dL_set_17 : decode cL_set 17 = .ok (.ireturn, 1) := by decide +kernel
theorem dL_set_18 : decode cL_set 18 = .ok (.iconst 0, 1) := by decide +kernel
theorem dL_set_19 : decode cL_set 19 = .ok (.ireturn, 1) := by decide +kernel
theorem dL_get_0 : decode cL_get 0 = .ok (.aload_n 3, 1) := by decide +kernel
theorem dL_get_1 : decode cL_get 1 = .ok (.iconst 0, 1) := by decide +kernel
theorem dL_get_2 : decode cL_get 2 = .ok (.aload_n 0, 1) := by decide +kernel
theorem dL_get_3 : decode cL_get 3 = .ok (.iload_n 1, 1) := by decide +kernel
theorem dL_get_4 : decode cL_get 4 = .ok (.iload_n 2, 1) := by decide +kernel
theorem dL_get_5 : decode cL_get 5 = .ok (.invokevirtual 25, 3) := by decide +kernel
theorem dL_get_8 : decode cL_get 8 = .ok (.i2l, 1) := by decide +kernel
theorem dL_get_9 : decode cL_get 9 = .ok (.lastore, 1) := by decide +kernel
theorem dL_get_10 : decode cL_get 10 = .ok (.goto 11, 3) := by decide +kernel
theorem dL_get_13 : decode cL_get 13 = .ok (.astore 4, 2) := by decide +kernel
theorem dL_get_15 : decode cL_get 15 = .ok (.iconst 1, 1) := by decide +kernel
theorem dL_get_16 : decode cL_get 16 = .ok (.ireturn, 1) := by decide +kernel
theorem dL_get_17 : decode cL_get 17 = .ok (.astore 4, 2) := by decide +kernel
theorem dL_get_19 : decode cL_get 19 = .ok (.iconst 2, 1) := by decide +kernel
theorem dL_get_20 : decode cL_get 20 = .ok (.ireturn, 1) := by decide +kernel
theorem dL_get_21 : decode cL_get 21 = .ok (.iconst 0, 1) := by decide +kernel
theorem dL_get_22 : decode cL_get 22 = .ok (.ireturn, 1) := by decide +kernel
theorem dL_saved_0 : decode cL_saved 0 = .ok (.aload_n 3, 1) := by decide +kernel
theorem dL_saved_1 : decode cL_saved 1 = .ok (.iconst 0, 1) := by decide +kernel
theorem dL_saved_2 : decode cL_saved 2 = .ok (.aload_n 0, 1) := by decide +kernel
theorem dL_saved_3 : decode cL_saved 3 = .ok (.iload_n 1, 1) := by decide +kernel
theorem dL_saved_4 : decode cL_saved 4 = .ok (.iload_n 2, 1) := by decide +kernel
theorem dL_saved_5 : decode cL_saved 5 = .ok (.invokevirtual 28, 3) := by decide +kernel
theorem dL_saved_8 : decode cL_saved 8 = .ok (.i2l, 1) := by decide +kernel
theorem dL_saved_9 : decode cL_saved 9 = .ok (.lastore, 1) := by decide +kernel
theorem dL_saved_10 : decode cL_saved 10 = .ok (.goto 7, 3) := by decide +kernel
theorem dL_saved_13 : decode cL_saved 13 = .ok (.astore 4, 2) := by decide +kernel
theorem dL_saved_15 : decode cL_saved 15 = .ok (.iconst 1, 1) := by decide +kernel
theorem dL_saved_16 : decode cL_saved 16 = .ok (.ireturn, 1) := by decide +kernel
theorem dL_saved_17 : decode cL_saved 17 = .ok (.iconst 0, 1) := by decide +kernel
theorem dL_saved_18 : decode cL_saved 18 = .ok (.ireturn, 1) := by decide +kernel
theorem dL_line_0 : decode cL_line 0 = .ok (.aload_n 3, 1) := by decide +kernel
theorem dL_line_1 : decode cL_line 1 = .ok (.iconst 0, 1) := by decide +kernel
theorem dL_line_2 : decode cL_line 2 = .ok (.aload_n 0, 1) := by decide +kernel
theorem dL_line_3 : decode cL_line 3 = .ok (.iload_n 1, 1) := by decide +kernel
theorem dL_line_4 : decode cL_line 4 = .ok (.iload_n 2, 1) := by decide +kernel
theorem dL_line_5 : decode cL_line 5 = .ok (.invokevirtual 31, 3) := by decide +kernel
theorem dL_line_8 : decode cL_line 8 = .ok (.ifCond .eq 7, 3) := by decide +kernel
theorem dL_line_11 : decode cL_line 11 = .ok (.lconst 1, 1) := by decide +kernel
theorem dL_line_12 : decode cL_line 12 = .ok (.goto 4, 3) := by decide +kernel
theorem dL_line_15 : decode cL_line 15 = .ok (.lconst 0, 1) := by decide +kernel
theorem dL_line_16 : decode cL_line 16 = .ok (.lastore, 1) := by decide +kernel
theorem dL_line_17 : decode cL_line 17 = .ok (.goto 7, 3) := by decide +kernel
theorem dL_line_20 : decode cL_line 20 = .ok (.astore 4, 2) := by decide +kernel
theorem dL_line_22 : decode cL_line 22 = .ok (.iconst 1, 1) := by decide +kernel
theorem dL_line_23 : decode cL_line 23 = .ok (.ireturn, 1) := by decide +kernel
theorem dL_line_24 : decode cL_line 24 = .ok (.iconst 0, 1) := by decide +kernel
theorem dL_line_25 : decode cL_line 25 = .ok (.ireturn, 1) := by decide +kernel
theorem dL_step_0 : decode cL_step 0 = .ok (.aload_n 2, 1) := by decide +kernel
theorem dL_step_1 : decode cL_step 1 = .ok (.iconst 0, 1) := by decide +kernel
theorem dL_step_2 : decode cL_step 2 = .ok (.aload_n 0, 1) := by decide +kernel
theorem dL_step_3 : decode cL_step 3 = .ok (.iload_n 1, 1) := by decide +kernel
theorem dL_step_4 : decode cL_step 4 = .ok (.invokevirtual 35, 3) := by decide +kernel
theorem dL_step_7 : decode cL_step 7 = .ok (.i2l, 1) := by decide +kernel
theorem dL_step_8 : decode cL_step 8 = .ok (.lastore, 1) := by decide +kernel
theorem dL_step_9 : decode cL_step 9 = .ok (.goto 6, 3) := by decide +kernel
theorem dL_step_12 : decode cL_step 12 = .ok (.astore_n 3, 1) := by decide +kernel
theorem dL_step_13 : decode cL_step 13 = .ok (.iconst 1, 1) := by decide +kernel
theorem dL_step_14 : decode cL_step 14 = .ok (.ireturn, 1) := by decide +kernel
theorem dL_step_15 : decode cL_step 15 = .ok (.iconst 0, 1) := by decide +kernel
theorem dL_step_16 : decode cL_step 16 = .ok (.ireturn, 1) := by decide +kernel
theorem dL_count_0 : decode cL_count 0 = .ok (.aload_n 2, 1) := by decide +kernel
theorem dL_count_1 : decode cL_count 1 = .ok (.iconst 0, 1) := by decide +kernel
theorem dL_count_2 : decode cL_count 2 = .ok (.aload_n 0, 1) := by decide +kernel
theorem dL_count_3 : decode cL_count 3 = .ok (.iload_n 1, 1) := by decide +kernel
theorem dL_count_4 : decode cL_count 4 = .ok (.invokevirtual 38, 3) := by decide +kernel
theorem dL_count_7 : decode cL_count 7 = .ok (.i2l, 1) := by decide +kernel
theorem dL_count_8 : decode cL_count 8 = .ok (.lastore, 1) := by decide +kernel
theorem dL_count_9 : decode cL_count 9 = .ok (.goto 6, 3) := by decide +kernel
theorem dL_count_12 : decode cL_count 12 = .ok (.astore_n 3, 1) := by decide +kernel
theorem dL_count_13 : decode cL_count 13 = .ok (.iconst 1, 1) := by decide +kernel
theorem dL_count_14 : decode cL_count 14 = .ok (.ireturn, 1) := by decide +kernel
theorem dL_count_15 : decode cL_count 15 = .ok (.iconst 0, 1) := by decide +kernel
theorem dL_count_16 : decode cL_count 16 = .ok (.ireturn, 1) := by decide +kernel
theorem dL_law_0 : decode cL_law 0 = .ok (.new 8, 3) := by decide +kernel
theorem dL_law_3 : decode cL_law 3 = .ok (.dup, 1) := by decide +kernel
theorem dL_law_4 : decode cL_law 4 = .ok (.invokespecial 41, 3) := by decide +kernel
theorem dL_law_7 : decode cL_law 7 = .ok (.astore_n 1, 1) := by decide +kernel
theorem dL_law_8 : decode cL_law 8 = .ok (.new 42, 3) := by decide +kernel
theorem dL_law_11 : decode cL_law 11 = .ok (.dup, 1) := by decide +kernel
theorem dL_law_12 : decode cL_law 12 = .ok (.invokespecial 44, 3) := by decide +kernel
theorem dL_law_15 : decode cL_law 15 = .ok (.astore_n 2, 1) := by decide +kernel
theorem dL_law_16 : decode cL_law 16 = .ok (.iconst 1, 1) := by decide +kernel
theorem dL_law_17 : decode cL_law 17 = .ok (.newarray .long, 2) := by decide +kernel
theorem dL_law_19 : decode cL_law 19 = .ok (.astore_n 3, 1) := by decide +kernel
theorem dL_law_20 : decode cL_law 20 = .ok (.iconst 0, 1) := by decide +kernel
theorem dL_law_21 : decode cL_law 21 = .ok (.istore 4, 2) := by decide +kernel
theorem dL_law_23 : decode cL_law 23 = .ok (.iload 4, 2) := by decide +kernel
theorem dL_law_25 : decode cL_law 25 = .ok (.aload_n 0, 1) := by decide +kernel
theorem dL_law_26 : decode cL_law 26 = .ok (.arraylength, 1) := by decide +kernel
theorem dL_law_27 : decode cL_law 27 = .ok (.iconst 4, 1) := by decide +kernel
theorem dL_law_28 : decode cL_law 28 = .ok (.isub, 1) := by decide +kernel
theorem dL_law_29 : decode cL_law 29 = .ok (.if_icmp .gt 613, 3) := by decide +kernel
theorem dL_law_32 : decode cL_law 32 = .ok (.aload_n 0, 1) := by decide +kernel
theorem dL_law_33 : decode cL_law 33 = .ok (.iload 4, 2) := by decide +kernel
theorem dL_law_35 : decode cL_law 35 = .ok (.iaload, 1) := by decide +kernel
theorem dL_law_36 : decode cL_law 36 = .ok (.bipush 15, 2) := by decide +kernel
theorem dL_law_38 : decode cL_law 38 = .ok (.iand, 1) := by decide +kernel
theorem dL_law_39 : decode cL_law 39 = .ok (.tableswitch 597 0 8 #[49, 117, 173, 233, 301, 326, 394, 485, 541], 49) := by decide +kernel
theorem dL_law_88 : decode cL_law 88 = .ok (.aload_n 1, 1) := by decide +kernel
theorem dL_law_89 : decode cL_law 89 = .ok (.aload_n 0, 1) := by decide +kernel
theorem dL_law_90 : decode cL_law 90 = .ok (.iload 4, 2) := by decide +kernel
theorem dL_law_92 : decode cL_law 92 = .ok (.iconst 1, 1) := by decide +kernel
theorem dL_law_93 : decode cL_law 93 = .ok (.iadd, 1) := by decide +kernel
theorem dL_law_94 : decode cL_law 94 = .ok (.iaload, 1) := by decide +kernel
theorem dL_law_95 : decode cL_law 95 = .ok (.aload_n 0, 1) := by decide +kernel
theorem dL_law_96 : decode cL_law 96 = .ok (.iload 4, 2) := by decide +kernel
theorem dL_law_98 : decode cL_law 98 = .ok (.iconst 2, 1) := by decide +kernel
theorem dL_law_99 : decode cL_law 99 = .ok (.iadd, 1) := by decide +kernel
theorem dL_law_100 : decode cL_law 100 = .ok (.iaload, 1) := by decide +kernel
theorem dL_law_101 : decode cL_law 101 = .ok (.aload_n 3, 1) := by decide +kernel
theorem dL_law_102 : decode cL_law 102 = .ok (.invokestatic 45, 3) := by decide +kernel
theorem dL_law_105 : decode cL_law 105 = .ok (.istore 5, 2) := by decide +kernel
theorem dL_law_107 : decode cL_law 107 = .ok (.aload_n 2, 1) := by decide +kernel
theorem dL_law_108 : decode cL_law 108 = .ok (.aload_n 0, 1) := by decide +kernel
theorem dL_law_109 : decode cL_law 109 = .ok (.iload 4, 2) := by decide +kernel
theorem dL_law_111 : decode cL_law 111 = .ok (.iconst 1, 1) := by decide +kernel
theorem dL_law_112 : decode cL_law 112 = .ok (.iadd, 1) := by decide +kernel
theorem dL_law_113 : decode cL_law 113 = .ok (.iaload, 1) := by decide +kernel
theorem dL_law_114 : decode cL_law 114 = .ok (.aload_n 0, 1) := by decide +kernel
theorem dL_law_115 : decode cL_law 115 = .ok (.iload 4, 2) := by decide +kernel
theorem dL_law_117 : decode cL_law 117 = .ok (.iconst 2, 1) := by decide +kernel
theorem dL_law_118 : decode cL_law 118 = .ok (.iadd, 1) := by decide +kernel
theorem dL_law_119 : decode cL_law 119 = .ok (.iaload, 1) := by decide +kernel
theorem dL_law_120 : decode cL_law 120 = .ok (.invokevirtual 50, 3) := by decide +kernel
theorem dL_law_123 : decode cL_law 123 = .ok (.istore 6, 2) := by decide +kernel
theorem dL_law_125 : decode cL_law 125 = .ok (.aload_n 2, 1) := by decide +kernel
theorem dL_law_126 : decode cL_law 126 = .ok (.invokevirtual 51, 3) := by decide +kernel
theorem dL_law_129 : decode cL_law 129 = .ok (.iload 5, 2) := by decide +kernel
theorem dL_law_131 : decode cL_law 131 = .ok (.if_icmp .eq 5, 3) := by decide +kernel
theorem dL_law_134 : decode cL_law 134 = .ok (.iconst 0, 1) := by decide +kernel
theorem dL_law_135 : decode cL_law 135 = .ok (.ireturn, 1) := by decide +kernel
theorem dL_law_136 : decode cL_law 136 = .ok (.iload 5, 2) := by decide +kernel
theorem dL_law_138 : decode cL_law 138 = .ok (.ifCond .ne 15, 3) := by decide +kernel
theorem dL_law_141 : decode cL_law 141 = .ok (.aload_n 3, 1) := by decide +kernel
theorem dL_law_142 : decode cL_law 142 = .ok (.iconst 0, 1) := by decide +kernel
theorem dL_law_143 : decode cL_law 143 = .ok (.laload, 1) := by decide +kernel
theorem dL_law_144 : decode cL_law 144 = .ok (.iload 6, 2) := by decide +kernel
theorem dL_law_146 : decode cL_law 146 = .ok (.i2l, 1) := by decide +kernel
theorem dL_law_147 : decode cL_law 147 = .ok (.lcmp, 1) := by decide +kernel
theorem dL_law_148 : decode cL_law 148 = .ok (.ifCond .eq 5, 3) := by decide +kernel
theorem dL_law_151 : decode cL_law 151 = .ok (.iconst 0, 1) := by decide +kernel
theorem dL_law_152 : decode cL_law 152 = .ok (.ireturn, 1) := by decide +kernel
theorem dL_law_153 : decode cL_law 153 = .ok (.goto 483, 3) := by decide +kernel
theorem dL_law_156 : decode cL_law 156 = .ok (.aload_n 1, 1) := by decide +kernel
theorem dL_law_157 : decode cL_law 157 = .ok (.aload_n 0, 1) := by decide +kernel
theorem dL_law_158 : decode cL_law 158 = .ok (.iload 4, 2) := by decide +kernel
theorem dL_law_160 : decode cL_law 160 = .ok (.iconst 1, 1) := by decide +kernel
theorem dL_law_161 : decode cL_law 161 = .ok (.iadd, 1) := by decide +kernel
theorem dL_law_162 : decode cL_law 162 = .ok (.iaload, 1) := by decide +kernel
theorem dL_law_163 : decode cL_law 163 = .ok (.aload_n 3, 1) := by decide +kernel
theorem dL_law_164 : decode cL_law 164 = .ok (.invokestatic 55, 3) := by decide +kernel
theorem dL_law_167 : decode cL_law 167 = .ok (.istore 5, 2) := by decide +kernel
theorem dL_law_169 : decode cL_law 169 = .ok (.aload_n 2, 1) := by decide +kernel
theorem dL_law_170 : decode cL_law 170 = .ok (.aload_n 0, 1) := by decide +kernel
theorem dL_law_171 : decode cL_law 171 = .ok (.iload 4, 2) := by decide +kernel
theorem dL_law_173 : decode cL_law 173 = .ok (.iconst 1, 1) := by decide +kernel
theorem dL_law_174 : decode cL_law 174 = .ok (.iadd, 1) := by decide +kernel
theorem dL_law_175 : decode cL_law 175 = .ok (.iaload, 1) := by decide +kernel
theorem dL_law_176 : decode cL_law 176 = .ok (.invokevirtual 58, 3) := by decide +kernel
theorem dL_law_179 : decode cL_law 179 = .ok (.istore 6, 2) := by decide +kernel
theorem dL_law_181 : decode cL_law 181 = .ok (.aload_n 2, 1) := by decide +kernel
theorem dL_law_182 : decode cL_law 182 = .ok (.invokevirtual 51, 3) := by decide +kernel
theorem dL_law_185 : decode cL_law 185 = .ok (.iload 5, 2) := by decide +kernel
theorem dL_law_187 : decode cL_law 187 = .ok (.if_icmp .eq 5, 3) := by decide +kernel
theorem dL_law_190 : decode cL_law 190 = .ok (.iconst 0, 1) := by decide +kernel
theorem dL_law_191 : decode cL_law 191 = .ok (.ireturn, 1) := by decide +kernel
theorem dL_law_192 : decode cL_law 192 = .ok (.iload 5, 2) := by decide +kernel
theorem dL_law_194 : decode cL_law 194 = .ok (.ifCond .ne 15, 3) := by decide +kernel
theorem dL_law_197 : decode cL_law 197 = .ok (.aload_n 3, 1) := by decide +kernel
theorem dL_law_198 : decode cL_law 198 = .ok (.iconst 0, 1) := by decide +kernel
theorem dL_law_199 : decode cL_law 199 = .ok (.laload, 1) := by decide +kernel
theorem dL_law_200 : decode cL_law 200 = .ok (.iload 6, 2) := by decide +kernel
theorem dL_law_202 : decode cL_law 202 = .ok (.i2l, 1) := by decide +kernel
theorem dL_law_203 : decode cL_law 203 = .ok (.lcmp, 1) := by decide +kernel
theorem dL_law_204 : decode cL_law 204 = .ok (.ifCond .eq 5, 3) := by decide +kernel
theorem dL_law_207 : decode cL_law 207 = .ok (.iconst 0, 1) := by decide +kernel
theorem dL_law_208 : decode cL_law 208 = .ok (.ireturn, 1) := by decide +kernel
theorem dL_law_209 : decode cL_law 209 = .ok (.goto 427, 3) := by decide +kernel
theorem dL_law_212 : decode cL_law 212 = .ok (.aload_n 1, 1) := by decide +kernel
theorem dL_law_213 : decode cL_law 213 = .ok (.aload_n 0, 1) := by decide +kernel
theorem dL_law_214 : decode cL_law 214 = .ok (.iload 4, 2) := by decide +kernel
theorem dL_law_216 : decode cL_law 216 = .ok (.iconst 1, 1) := by decide +kernel
theorem dL_law_217 : decode cL_law 217 = .ok (.iadd, 1) := by decide +kernel
theorem dL_law_218 : decode cL_law 218 = .ok (.iaload, 1) := by decide +kernel
theorem dL_law_219 : decode cL_law 219 = .ok (.aload_n 0, 1) := by decide +kernel
theorem dL_law_220 : decode cL_law 220 = .ok (.iload 4, 2) := by decide +kernel
theorem dL_law_222 : decode cL_law 222 = .ok (.iconst 2, 1) := by decide +kernel
theorem dL_law_223 : decode cL_law 223 = .ok (.iadd, 1) := by decide +kernel
theorem dL_law_224 : decode cL_law 224 = .ok (.iaload, 1) := by decide +kernel
theorem dL_law_225 : decode cL_law 225 = .ok (.aload_n 0, 1) := by decide +kernel
theorem dL_law_226 : decode cL_law 226 = .ok (.iload 4, 2) := by decide +kernel
theorem dL_law_228 : decode cL_law 228 = .ok (.iconst 3, 1) := by decide +kernel
theorem dL_law_229 : decode cL_law 229 = .ok (.iadd, 1) := by decide +kernel
theorem dL_law_230 : decode cL_law 230 = .ok (.iaload, 1) := by decide +kernel
theorem dL_law_231 : decode cL_law 231 = .ok (.invokestatic 59, 3) := by decide +kernel
theorem dL_law_234 : decode cL_law 234 = .ok (.istore 5, 2) := by decide +kernel
theorem dL_law_236 : decode cL_law 236 = .ok (.aload_n 2, 1) := by decide +kernel
theorem dL_law_237 : decode cL_law 237 = .ok (.aload_n 0, 1) := by decide +kernel
theorem dL_law_238 : decode cL_law 238 = .ok (.iload 4, 2) := by decide +kernel
theorem dL_law_240 : decode cL_law 240 = .ok (.iconst 1, 1) := by decide +kernel
theorem dL_law_241 : decode cL_law 241 = .ok (.iadd, 1) := by decide +kernel
theorem dL_law_242 : decode cL_law 242 = .ok (.iaload, 1) := by decide +kernel
theorem dL_law_243 : decode cL_law 243 = .ok (.aload_n 0, 1) := by decide +kernel
theorem dL_law_244 : decode cL_law 244 = .ok (.iload 4, 2) := by decide +kernel
theorem dL_law_246 : decode cL_law 246 = .ok (.iconst 2, 1) := by decide +kernel
theorem dL_law_247 : decode cL_law 247 = .ok (.iadd, 1) := by decide +kernel
theorem dL_law_248 : decode cL_law 248 = .ok (.iaload, 1) := by decide +kernel
theorem dL_law_249 : decode cL_law 249 = .ok (.aload_n 0, 1) := by decide +kernel
theorem dL_law_250 : decode cL_law 250 = .ok (.iload 4, 2) := by decide +kernel
theorem dL_law_252 : decode cL_law 252 = .ok (.iconst 3, 1) := by decide +kernel
theorem dL_law_253 : decode cL_law 253 = .ok (.iadd, 1) := by decide +kernel
theorem dL_law_254 : decode cL_law 254 = .ok (.iaload, 1) := by decide +kernel
theorem dL_law_255 : decode cL_law 255 = .ok (.invokevirtual 62, 3) := by decide +kernel
theorem dL_law_258 : decode cL_law 258 = .ok (.aload_n 2, 1) := by decide +kernel
theorem dL_law_259 : decode cL_law 259 = .ok (.invokevirtual 51, 3) := by decide +kernel
theorem dL_law_262 : decode cL_law 262 = .ok (.iload 5, 2) := by decide +kernel
theorem dL_law_264 : decode cL_law 264 = .ok (.if_icmp .eq 5, 3) := by decide +kernel
theorem dL_law_267 : decode cL_law 267 = .ok (.iconst 0, 1) := by decide +kernel
theorem dL_law_268 : decode cL_law 268 = .ok (.ireturn, 1) := by decide +kernel
theorem dL_law_269 : decode cL_law 269 = .ok (.goto 367, 3) := by decide +kernel
theorem dL_law_272 : decode cL_law 272 = .ok (.aload_n 1, 1) := by decide +kernel
theorem dL_law_273 : decode cL_law 273 = .ok (.aload_n 0, 1) := by decide +kernel
theorem dL_law_274 : decode cL_law 274 = .ok (.iload 4, 2) := by decide +kernel
theorem dL_law_276 : decode cL_law 276 = .ok (.iconst 1, 1) := by decide +kernel
theorem dL_law_277 : decode cL_law 277 = .ok (.iadd, 1) := by decide +kernel
theorem dL_law_278 : decode cL_law 278 = .ok (.iaload, 1) := by decide +kernel
theorem dL_law_279 : decode cL_law 279 = .ok (.aload_n 0, 1) := by decide +kernel
theorem dL_law_280 : decode cL_law 280 = .ok (.iload 4, 2) := by decide +kernel
theorem dL_law_282 : decode cL_law 282 = .ok (.iconst 2, 1) := by decide +kernel
theorem dL_law_283 : decode cL_law 283 = .ok (.iadd, 1) := by decide +kernel
theorem dL_law_284 : decode cL_law 284 = .ok (.iaload, 1) := by decide +kernel
theorem dL_law_285 : decode cL_law 285 = .ok (.aload_n 3, 1) := by decide +kernel
theorem dL_law_286 : decode cL_law 286 = .ok (.invokestatic 63, 3) := by decide +kernel
theorem dL_law_289 : decode cL_law 289 = .ok (.istore 5, 2) := by decide +kernel
theorem dL_law_291 : decode cL_law 291 = .ok (.aload_n 2, 1) := by decide +kernel
theorem dL_law_292 : decode cL_law 292 = .ok (.aload_n 0, 1) := by decide +kernel
theorem dL_law_293 : decode cL_law 293 = .ok (.iload 4, 2) := by decide +kernel
theorem dL_law_295 : decode cL_law 295 = .ok (.iconst 1, 1) := by decide +kernel
theorem dL_law_296 : decode cL_law 296 = .ok (.iadd, 1) := by decide +kernel
theorem dL_law_297 : decode cL_law 297 = .ok (.iaload, 1) := by decide +kernel
theorem dL_law_298 : decode cL_law 298 = .ok (.aload_n 0, 1) := by decide +kernel
theorem dL_law_299 : decode cL_law 299 = .ok (.iload 4, 2) := by decide +kernel
theorem dL_law_301 : decode cL_law 301 = .ok (.iconst 2, 1) := by decide +kernel
theorem dL_law_302 : decode cL_law 302 = .ok (.iadd, 1) := by decide +kernel
theorem dL_law_303 : decode cL_law 303 = .ok (.iaload, 1) := by decide +kernel
theorem dL_law_304 : decode cL_law 304 = .ok (.invokevirtual 65, 3) := by decide +kernel
theorem dL_law_307 : decode cL_law 307 = .ok (.istore 6, 2) := by decide +kernel
theorem dL_law_309 : decode cL_law 309 = .ok (.aload_n 2, 1) := by decide +kernel
theorem dL_law_310 : decode cL_law 310 = .ok (.invokevirtual 51, 3) := by decide +kernel
theorem dL_law_313 : decode cL_law 313 = .ok (.iload 5, 2) := by decide +kernel
theorem dL_law_315 : decode cL_law 315 = .ok (.if_icmp .eq 5, 3) := by decide +kernel
theorem dL_law_318 : decode cL_law 318 = .ok (.iconst 0, 1) := by decide +kernel
theorem dL_law_319 : decode cL_law 319 = .ok (.ireturn, 1) := by decide +kernel
theorem dL_law_320 : decode cL_law 320 = .ok (.iload 5, 2) := by decide +kernel
theorem dL_law_322 : decode cL_law 322 = .ok (.ifCond .ne 15, 3) := by decide +kernel
theorem dL_law_325 : decode cL_law 325 = .ok (.aload_n 3, 1) := by decide +kernel
theorem dL_law_326 : decode cL_law 326 = .ok (.iconst 0, 1) := by decide +kernel
theorem dL_law_327 : decode cL_law 327 = .ok (.laload, 1) := by decide +kernel
theorem dL_law_328 : decode cL_law 328 = .ok (.iload 6, 2) := by decide +kernel
theorem dL_law_330 : decode cL_law 330 = .ok (.i2l, 1) := by decide +kernel
theorem dL_law_331 : decode cL_law 331 = .ok (.lcmp, 1) := by decide +kernel
theorem dL_law_332 : decode cL_law 332 = .ok (.ifCond .eq 5, 3) := by decide +kernel
theorem dL_law_335 : decode cL_law 335 = .ok (.iconst 0, 1) := by decide +kernel
theorem dL_law_336 : decode cL_law 336 = .ok (.ireturn, 1) := by decide +kernel
theorem dL_law_337 : decode cL_law 337 = .ok (.goto 299, 3) := by decide +kernel
theorem dL_law_340 : decode cL_law 340 = .ok (.aload_n 1, 1) := by decide +kernel
theorem dL_law_341 : decode cL_law 341 = .ok (.aload_n 0, 1) := by decide +kernel
theorem dL_law_342 : decode cL_law 342 = .ok (.iload 4, 2) := by decide +kernel
theorem dL_law_344 : decode cL_law 344 = .ok (.iconst 1, 1) := by decide +kernel
theorem dL_law_345 : decode cL_law 345 = .ok (.iadd, 1) := by decide +kernel
theorem dL_law_346 : decode cL_law 346 = .ok (.iaload, 1) := by decide +kernel
theorem dL_law_347 : decode cL_law 347 = .ok (.invokevirtual 66, 3) := by decide +kernel
theorem dL_law_350 : decode cL_law 350 = .ok (.aload_n 2, 1) := by decide +kernel
theorem dL_law_351 : decode cL_law 351 = .ok (.aload_n 0, 1) := by decide +kernel
theorem dL_law_352 : decode cL_law 352 = .ok (.iload 4, 2) := by decide +kernel
theorem dL_law_354 : decode cL_law 354 = .ok (.iconst 1, 1) := by decide +kernel
theorem dL_law_355 : decode cL_law 355 = .ok (.iadd, 1) := by decide +kernel
theorem dL_law_356 : decode cL_law 356 = .ok (.iaload, 1) := by decide +kernel
theorem dL_law_357 : decode cL_law 357 = .ok (.invokevirtual 69, 3) := by decide +kernel
theorem dL_law_360 : decode cL_law 360 = .ok (.if_icmp .eq 276, 3) := by decide +kernel
theorem dL_law_363 : decode cL_law 363 = .ok (.iconst 0, 1) := by decide +kernel
theorem dL_law_364 : decode cL_law 364 = .ok (.ireturn, 1) := by decide +kernel
theorem dL_law_365 : decode cL_law 365 = .ok (.aload_n 1, 1) := by decide +kernel
theorem dL_law_366 : decode cL_law 366 = .ok (.aload_n 0, 1) := by decide +kernel
theorem dL_law_367 : decode cL_law 367 = .ok (.iload 4, 2) := by decide +kernel
theorem dL_law_369 : decode cL_law 369 = .ok (.iconst 1, 1) := by decide +kernel
theorem dL_law_370 : decode cL_law 370 = .ok (.iadd, 1) := by decide +kernel
theorem dL_law_371 : decode cL_law 371 = .ok (.iaload, 1) := by decide +kernel
theorem dL_law_372 : decode cL_law 372 = .ok (.aload_n 0, 1) := by decide +kernel
theorem dL_law_373 : decode cL_law 373 = .ok (.iload 4, 2) := by decide +kernel
theorem dL_law_375 : decode cL_law 375 = .ok (.iconst 2, 1) := by decide +kernel
theorem dL_law_376 : decode cL_law 376 = .ok (.iadd, 1) := by decide +kernel
theorem dL_law_377 : decode cL_law 377 = .ok (.iaload, 1) := by decide +kernel
theorem dL_law_378 : decode cL_law 378 = .ok (.aload_n 3, 1) := by decide +kernel
theorem dL_law_379 : decode cL_law 379 = .ok (.invokestatic 70, 3) := by decide +kernel
theorem dL_law_382 : decode cL_law 382 = .ok (.istore 5, 2) := by decide +kernel
theorem dL_law_384 : decode cL_law 384 = .ok (.aload_n 2, 1) := by decide +kernel
theorem dL_law_385 : decode cL_law 385 = .ok (.aload_n 0, 1) := by decide +kernel
theorem dL_law_386 : decode cL_law 386 = .ok (.iload 4, 2) := by decide +kernel
theorem dL_law_388 : decode cL_law 388 = .ok (.iconst 1, 1) := by decide +kernel
theorem dL_law_389 : decode cL_law 389 = .ok (.iadd, 1) := by decide +kernel
theorem dL_law_390 : decode cL_law 390 = .ok (.iaload, 1) := by decide +kernel
theorem dL_law_391 : decode cL_law 391 = .ok (.aload_n 0, 1) := by decide +kernel
theorem dL_law_392 : decode cL_law 392 = .ok (.iload 4, 2) := by decide +kernel
theorem dL_law_394 : decode cL_law 394 = .ok (.iconst 2, 1) := by decide +kernel
theorem dL_law_395 : decode cL_law 395 = .ok (.iadd, 1) := by decide +kernel
theorem dL_law_396 : decode cL_law 396 = .ok (.iaload, 1) := by decide +kernel
theorem dL_law_397 : decode cL_law 397 = .ok (.invokevirtual 72, 3) := by decide +kernel
theorem dL_law_400 : decode cL_law 400 = .ok (.istore 6, 2) := by decide +kernel
theorem dL_law_402 : decode cL_law 402 = .ok (.aload_n 2, 1) := by decide +kernel
theorem dL_law_403 : decode cL_law 403 = .ok (.invokevirtual 51, 3) := by decide +kernel
theorem dL_law_406 : decode cL_law 406 = .ok (.iload 5, 2) := by decide +kernel
theorem dL_law_408 : decode cL_law 408 = .ok (.if_icmp .eq 5, 3) := by decide +kernel
theorem dL_law_411 : decode cL_law 411 = .ok (.iconst 0, 1) := by decide +kernel
theorem dL_law_412 : decode cL_law 412 = .ok (.ireturn, 1) := by decide +kernel
theorem dL_law_413 : decode cL_law 413 = .ok (.iload 5, 2) := by decide +kernel
theorem dL_law_415 : decode cL_law 415 = .ok (.ifCond .ne 15, 3) := by decide +kernel
theorem dL_law_418 : decode cL_law 418 = .ok (.aload_n 3, 1) := by decide +kernel
theorem dL_law_419 : decode cL_law 419 = .ok (.iconst 0, 1) := by decide +kernel
theorem dL_law_420 : decode cL_law 420 = .ok (.laload, 1) := by decide +kernel
theorem dL_law_421 : decode cL_law 421 = .ok (.iload 6, 2) := by decide +kernel
theorem dL_law_423 : decode cL_law 423 = .ok (.i2l, 1) := by decide +kernel
theorem dL_law_424 : decode cL_law 424 = .ok (.lcmp, 1) := by decide +kernel
theorem dL_law_425 : decode cL_law 425 = .ok (.ifCond .eq 5, 3) := by decide +kernel
theorem dL_law_428 : decode cL_law 428 = .ok (.iconst 0, 1) := by decide +kernel
theorem dL_law_429 : decode cL_law 429 = .ok (.ireturn, 1) := by decide +kernel
theorem dL_law_430 : decode cL_law 430 = .ok (.goto 206, 3) := by decide +kernel
theorem dL_law_433 : decode cL_law 433 = .ok (.aload_n 1, 1) := by decide +kernel
theorem dL_law_434 : decode cL_law 434 = .ok (.aload_n 0, 1) := by decide +kernel
theorem dL_law_435 : decode cL_law 435 = .ok (.iload 4, 2) := by decide +kernel
theorem dL_law_437 : decode cL_law 437 = .ok (.iconst 1, 1) := by decide +kernel
theorem dL_law_438 : decode cL_law 438 = .ok (.iadd, 1) := by decide +kernel
theorem dL_law_439 : decode cL_law 439 = .ok (.iaload, 1) := by decide +kernel
theorem dL_law_440 : decode cL_law 440 = .ok (.aload_n 0, 1) := by decide +kernel
theorem dL_law_441 : decode cL_law 441 = .ok (.iload 4, 2) := by decide +kernel
theorem dL_law_443 : decode cL_law 443 = .ok (.iconst 2, 1) := by decide +kernel
theorem dL_law_444 : decode cL_law 444 = .ok (.iadd, 1) := by decide +kernel
theorem dL_law_445 : decode cL_law 445 = .ok (.iaload, 1) := by decide +kernel
theorem dL_law_446 : decode cL_law 446 = .ok (.ifCond .eq 7, 3) := by decide +kernel
theorem dL_law_449 : decode cL_law 449 = .ok (.iconst 1, 1) := by decide +kernel
theorem dL_law_450 : decode cL_law 450 = .ok (.goto 4, 3) := by decide +kernel
theorem dL_law_453 : decode cL_law 453 = .ok (.iconst 0, 1) := by decide +kernel
theorem dL_law_454 : decode cL_law 454 = .ok (.aload_n 3, 1) := by decide +kernel
theorem dL_law_455 : decode cL_law 455 = .ok (.invokestatic 73, 3) := by decide +kernel
theorem dL_law_458 : decode cL_law 458 = .ok (.istore 5, 2) := by decide +kernel
theorem dL_law_460 : decode cL_law 460 = .ok (.aload_n 2, 1) := by decide +kernel
theorem dL_law_461 : decode cL_law 461 = .ok (.aload_n 0, 1) := by decide +kernel
theorem dL_law_462 : decode cL_law 462 = .ok (.iload 4, 2) := by decide +kernel
theorem dL_law_464 : decode cL_law 464 = .ok (.iconst 1, 1) := by decide +kernel
theorem dL_law_465 : decode cL_law 465 = .ok (.iadd, 1) := by decide +kernel
theorem dL_law_466 : decode cL_law 466 = .ok (.iaload, 1) := by decide +kernel
theorem dL_law_467 : decode cL_law 467 = .ok (.aload_n 0, 1) := by decide +kernel
theorem dL_law_468 : decode cL_law 468 = .ok (.iload 4, 2) := by decide +kernel
theorem dL_law_470 : decode cL_law 470 = .ok (.iconst 2, 1) := by decide +kernel
theorem dL_law_471 : decode cL_law 471 = .ok (.iadd, 1) := by decide +kernel
theorem dL_law_472 : decode cL_law 472 = .ok (.iaload, 1) := by decide +kernel
theorem dL_law_473 : decode cL_law 473 = .ok (.ifCond .eq 7, 3) := by decide +kernel
theorem dL_law_476 : decode cL_law 476 = .ok (.iconst 1, 1) := by decide +kernel
theorem dL_law_477 : decode cL_law 477 = .ok (.goto 4, 3) := by decide +kernel
theorem dL_law_480 : decode cL_law 480 = .ok (.iconst 0, 1) := by decide +kernel
theorem dL_law_481 : decode cL_law 481 = .ok (.invokevirtual 76, 3) := by decide +kernel
theorem dL_law_484 : decode cL_law 484 = .ok (.istore 6, 2) := by decide +kernel
theorem dL_law_486 : decode cL_law 486 = .ok (.aload_n 2, 1) := by decide +kernel
theorem dL_law_487 : decode cL_law 487 = .ok (.invokevirtual 51, 3) := by decide +kernel
theorem dL_law_490 : decode cL_law 490 = .ok (.iload 5, 2) := by decide +kernel
theorem dL_law_492 : decode cL_law 492 = .ok (.if_icmp .eq 5, 3) := by decide +kernel
theorem dL_law_495 : decode cL_law 495 = .ok (.iconst 0, 1) := by decide +kernel
theorem dL_law_496 : decode cL_law 496 = .ok (.ireturn, 1) := by decide +kernel
theorem dL_law_497 : decode cL_law 497 = .ok (.iload 5, 2) := by decide +kernel
theorem dL_law_499 : decode cL_law 499 = .ok (.ifCond .ne 22, 3) := by decide +kernel
theorem dL_law_502 : decode cL_law 502 = .ok (.aload_n 3, 1) := by decide +kernel
theorem dL_law_503 : decode cL_law 503 = .ok (.iconst 0, 1) := by decide +kernel
theorem dL_law_504 : decode cL_law 504 = .ok (.laload, 1) := by decide +kernel
theorem dL_law_505 : decode cL_law 505 = .ok (.iload 6, 2) := by decide +kernel
theorem dL_law_507 : decode cL_law 507 = .ok (.ifCond .eq 7, 3) := by decide +kernel
theorem dL_law_510 : decode cL_law 510 = .ok (.lconst 1, 1) := by decide +kernel
theorem dL_law_511 : decode cL_law 511 = .ok (.goto 4, 3) := by decide +kernel
theorem dL_law_514 : decode cL_law 514 = .ok (.lconst 0, 1) := by decide +kernel
theorem dL_law_515 : decode cL_law 515 = .ok (.lcmp, 1) := by decide +kernel
theorem dL_law_516 : decode cL_law 516 = .ok (.ifCond .eq 5, 3) := by decide +kernel
theorem dL_law_519 : decode cL_law 519 = .ok (.iconst 0, 1) := by decide +kernel
theorem dL_law_520 : decode cL_law 520 = .ok (.ireturn, 1) := by decide +kernel
theorem dL_law_521 : decode cL_law 521 = .ok (.goto 115, 3) := by decide +kernel
theorem dL_law_524 : decode cL_law 524 = .ok (.aload_n 1, 1) := by decide +kernel
theorem dL_law_525 : decode cL_law 525 = .ok (.aload_n 0, 1) := by decide +kernel
theorem dL_law_526 : decode cL_law 526 = .ok (.iload 4, 2) := by decide +kernel
theorem dL_law_528 : decode cL_law 528 = .ok (.iconst 1, 1) := by decide +kernel
theorem dL_law_529 : decode cL_law 529 = .ok (.iadd, 1) := by decide +kernel
theorem dL_law_530 : decode cL_law 530 = .ok (.iaload, 1) := by decide +kernel
theorem dL_law_531 : decode cL_law 531 = .ok (.aload_n 3, 1) := by decide +kernel
theorem dL_law_532 : decode cL_law 532 = .ok (.invokestatic 77, 3) := by decide +kernel
theorem dL_law_535 : decode cL_law 535 = .ok (.istore 5, 2) := by decide +kernel
theorem dL_law_537 : decode cL_law 537 = .ok (.aload_n 2, 1) := by decide +kernel
theorem dL_law_538 : decode cL_law 538 = .ok (.aload_n 0, 1) := by decide +kernel
theorem dL_law_539 : decode cL_law 539 = .ok (.iload 4, 2) := by decide +kernel
theorem dL_law_541 : decode cL_law 541 = .ok (.iconst 1, 1) := by decide +kernel
theorem dL_law_542 : decode cL_law 542 = .ok (.iadd, 1) := by decide +kernel
theorem dL_law_543 : decode cL_law 543 = .ok (.iaload, 1) := by decide +kernel
theorem dL_law_544 : decode cL_law 544 = .ok (.invokevirtual 79, 3) := by decide +kernel
theorem dL_law_547 : decode cL_law 547 = .ok (.istore 6, 2) := by decide +kernel
theorem dL_law_549 : decode cL_law 549 = .ok (.aload_n 2, 1) := by decide +kernel
theorem dL_law_550 : decode cL_law 550 = .ok (.invokevirtual 51, 3) := by decide +kernel
theorem dL_law_553 : decode cL_law 553 = .ok (.iload 5, 2) := by decide +kernel
theorem dL_law_555 : decode cL_law 555 = .ok (.if_icmp .eq 5, 3) := by decide +kernel
theorem dL_law_558 : decode cL_law 558 = .ok (.iconst 0, 1) := by decide +kernel
theorem dL_law_559 : decode cL_law 559 = .ok (.ireturn, 1) := by decide +kernel
theorem dL_law_560 : decode cL_law 560 = .ok (.iload 5, 2) := by decide +kernel
theorem dL_law_562 : decode cL_law 562 = .ok (.ifCond .ne 15, 3) := by decide +kernel
theorem dL_law_565 : decode cL_law 565 = .ok (.aload_n 3, 1) := by decide +kernel
theorem dL_law_566 : decode cL_law 566 = .ok (.iconst 0, 1) := by decide +kernel
theorem dL_law_567 : decode cL_law 567 = .ok (.laload, 1) := by decide +kernel
theorem dL_law_568 : decode cL_law 568 = .ok (.iload 6, 2) := by decide +kernel
theorem dL_law_570 : decode cL_law 570 = .ok (.i2l, 1) := by decide +kernel
theorem dL_law_571 : decode cL_law 571 = .ok (.lcmp, 1) := by decide +kernel
theorem dL_law_572 : decode cL_law 572 = .ok (.ifCond .eq 5, 3) := by decide +kernel
theorem dL_law_575 : decode cL_law 575 = .ok (.iconst 0, 1) := by decide +kernel
theorem dL_law_576 : decode cL_law 576 = .ok (.ireturn, 1) := by decide +kernel
theorem dL_law_577 : decode cL_law 577 = .ok (.goto 59, 3) := by decide +kernel
theorem dL_law_580 : decode cL_law 580 = .ok (.aload_n 1, 1) := by decide +kernel
theorem dL_law_581 : decode cL_law 581 = .ok (.aload_n 0, 1) := by decide +kernel
theorem dL_law_582 : decode cL_law 582 = .ok (.iload 4, 2) := by decide +kernel
theorem dL_law_584 : decode cL_law 584 = .ok (.iconst 1, 1) := by decide +kernel
theorem dL_law_585 : decode cL_law 585 = .ok (.iadd, 1) := by decide +kernel
theorem dL_law_586 : decode cL_law 586 = .ok (.iaload, 1) := by decide +kernel
theorem dL_law_587 : decode cL_law 587 = .ok (.aload_n 3, 1) := by decide +kernel
theorem dL_law_588 : decode cL_law 588 = .ok (.invokestatic 80, 3) := by decide +kernel
theorem dL_law_591 : decode cL_law 591 = .ok (.istore 5, 2) := by decide +kernel
theorem dL_law_593 : decode cL_law 593 = .ok (.aload_n 2, 1) := by decide +kernel
theorem dL_law_594 : decode cL_law 594 = .ok (.aload_n 0, 1) := by decide +kernel
theorem dL_law_595 : decode cL_law 595 = .ok (.iload 4, 2) := by decide +kernel
theorem dL_law_597 : decode cL_law 597 = .ok (.iconst 1, 1) := by decide +kernel
theorem dL_law_598 : decode cL_law 598 = .ok (.iadd, 1) := by decide +kernel
theorem dL_law_599 : decode cL_law 599 = .ok (.iaload, 1) := by decide +kernel
theorem dL_law_600 : decode cL_law 600 = .ok (.invokevirtual 82, 3) := by decide +kernel
theorem dL_law_603 : decode cL_law 603 = .ok (.istore 6, 2) := by decide +kernel
theorem dL_law_605 : decode cL_law 605 = .ok (.aload_n 2, 1) := by decide +kernel
theorem dL_law_606 : decode cL_law 606 = .ok (.invokevirtual 51, 3) := by decide +kernel
theorem dL_law_609 : decode cL_law 609 = .ok (.iload 5, 2) := by decide +kernel
theorem dL_law_611 : decode cL_law 611 = .ok (.if_icmp .eq 5, 3) := by decide +kernel
theorem dL_law_614 : decode cL_law 614 = .ok (.iconst 0, 1) := by decide +kernel
theorem dL_law_615 : decode cL_law 615 = .ok (.ireturn, 1) := by decide +kernel
theorem dL_law_616 : decode cL_law 616 = .ok (.iload 5, 2) := by decide +kernel
theorem dL_law_618 : decode cL_law 618 = .ok (.ifCond .ne 15, 3) := by decide +kernel
theorem dL_law_621 : decode cL_law 621 = .ok (.aload_n 3, 1) := by decide +kernel
theorem dL_law_622 : decode cL_law 622 = .ok (.iconst 0, 1) := by decide +kernel
theorem dL_law_623 : decode cL_law 623 = .ok (.laload, 1) := by decide +kernel
theorem dL_law_624 : decode cL_law 624 = .ok (.iload 6, 2) := by decide +kernel
theorem dL_law_626 : decode cL_law 626 = .ok (.i2l, 1) := by decide +kernel
theorem dL_law_627 : decode cL_law 627 = .ok (.lcmp, 1) := by decide +kernel
theorem dL_law_628 : decode cL_law 628 = .ok (.ifCond .eq 5, 3) := by decide +kernel
theorem dL_law_631 : decode cL_law 631 = .ok (.iconst 0, 1) := by decide +kernel
theorem dL_law_632 : decode cL_law 632 = .ok (.ireturn, 1) := by decide +kernel
theorem dL_law_633 : decode cL_law 633 = .ok (.goto 3, 3) := by decide +kernel
theorem dL_law_636 : decode cL_law 636 = .ok (.iinc 4 4, 3) := by decide +kernel
theorem dL_law_639 : decode cL_law 639 = .ok (.goto (-616), 3) := by decide +kernel
theorem dL_law_642 : decode cL_law 642 = .ok (.iconst 1, 1) := by decide +kernel
theorem dL_law_643 : decode cL_law 643 = .ok (.ireturn, 1) := by decide +kernel
