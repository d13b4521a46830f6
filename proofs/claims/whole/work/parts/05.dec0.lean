theorem dX0_init_0 : decode cX0_init 0 = .ok (.aload_n 0, 1) := by decide +kernel
theorem dX0_init_1 : decode cX0_init 1 = .ok (.invokespecial 1, 3) := by decide +kernel
theorem dX0_init_4 : decode cX0_init 4 = .ok (.aload_n 0, 1) := by decide +kernel
theorem dX0_init_5 : decode cX0_init 5 = .ok (.aload_n 1, 1) := by decide +kernel
theorem dX0_init_6 : decode cX0_init 6 = .ok (.putfield 7, 3) := by decide +kernel
theorem dX0_init_9 : decode cX0_init 9 = .ok (.aload_n 0, 1) := by decide +kernel
theorem dX0_init_10 : decode cX0_init 10 = .ok (.iconst 0, 1) := by decide +kernel
theorem dX0_init_11 : decode cX0_init 11 = .ok (.putfield 13, 3) := by decide +kernel
theorem dX0_init_14 : decode cX0_init 14 = .ok (.return_, 1) := by decide +kernel
theorem dX0_isTest_0 : decode cX0_isTest 0 = .ok (.iload_n 0, 1) := by decide +kernel
theorem dX0_isTest_1 : decode cX0_isTest 1 = .ok (.bipush 12, 2) := by decide +kernel
theorem dX0_isTest_3 : decode cX0_isTest 3 = .ok (.iand, 1) := by decide +kernel
theorem dX0_isTest_4 : decode cX0_isTest 4 = .ok (.bipush 8, 2) := by decide +kernel
theorem dX0_isTest_6 : decode cX0_isTest 6 = .ok (.if_icmp .ne 7, 3) := by decide +kernel
theorem dX0_isTest_9 : decode cX0_isTest 9 = .ok (.iconst 1, 1) := by decide +kernel
theorem dX0_isTest_10 : decode cX0_isTest 10 = .ok (.goto 4, 3) := by decide +kernel
theorem dX0_isTest_13 : decode cX0_isTest 13 = .ok (.iconst 0, 1) := by decide +kernel
theorem dX0_isTest_14 : decode cX0_isTest 14 = .ok (.ireturn, 1) := by decide +kernel
theorem dX0_flags_0 : decode cX0_flags 0 = .ok (.aload_n 0, 1) := by decide +kernel
theorem dX0_flags_1 : decode cX0_flags 1 = .ok (.getfield 13, 3) := by decide +kernel
theorem dX0_flags_4 : decode cX0_flags 4 = .ok (.ireturn, 1) := by decide +kernel
theorem dX0_compute_0 : decode cX0_compute 0 = .ok (.iload_n 1, 1) := by decide +kernel
theorem dX0_compute_1 : decode cX0_compute 1 = .ok (.tableswitch 199 0 14 #[75, 85, 95, 105, 115, 123, 137, 153, 75, 85, 95, 115, 169, 179, 187], 75) := by decide +kernel
theorem dX0_compute_76 : decode cX0_compute 76 = .ok (.aload_n 0, 1) := by decide +kernel
theorem dX0_compute_77 : decode cX0_compute 77 = .ok (.iload_n 2, 1) := by decide +kernel
theorem dX0_compute_78 : decode cX0_compute 78 = .ok (.iload_n 3, 1) := by decide +kernel
theorem dX0_compute_79 : decode cX0_compute 79 = .ok (.iand, 1) := by decide +kernel
theorem dX0_compute_80 : decode cX0_compute 80 = .ok (.iload 4, 2) := by decide +kernel
theorem dX0_compute_82 : decode cX0_compute 82 = .ok (.invokevirtual 17, 3) := by decide +kernel
theorem dX0_compute_85 : decode cX0_compute 85 = .ok (.ireturn, 1) := by decide +kernel
theorem dX0_compute_86 : decode cX0_compute 86 = .ok (.aload_n 0, 1) := by decide +kernel
theorem dX0_compute_87 : decode cX0_compute 87 = .ok (.iload_n 2, 1) := by decide +kernel
theorem dX0_compute_88 : decode cX0_compute 88 = .ok (.iload_n 3, 1) := by decide +kernel
theorem dX0_compute_89 : decode cX0_compute 89 = .ok (.ixor, 1) := by decide +kernel
theorem dX0_compute_90 : decode cX0_compute 90 = .ok (.iload 4, 2) := by decide +kernel
theorem dX0_compute_92 : decode cX0_compute 92 = .ok (.invokevirtual 17, 3) := by decide +kernel
theorem dX0_compute_95 : decode cX0_compute 95 = .ok (.ireturn, 1) := by decide +kernel
theorem dX0_compute_96 : decode cX0_compute 96 = .ok (.aload_n 0, 1) := by decide +kernel
theorem dX0_compute_97 : decode cX0_compute 97 = .ok (.iload_n 2, 1) := by decide +kernel
theorem dX0_compute_98 : decode cX0_compute 98 = .ok (.iload_n 3, 1) := by decide +kernel
theorem dX0_compute_99 : decode cX0_compute 99 = .ok (.iconst (-1), 1) := by decide +kernel
theorem dX0_compute_100 : decode cX0_compute 100 = .ok (.ixor, 1) := by decide +kernel
theorem dX0_compute_101 : decode cX0_compute 101 = .ok (.iconst 1, 1) := by decide +kernel
theorem dX0_compute_102 : decode cX0_compute 102 = .ok (.invokevirtual 21, 3) := by decide +kernel
theorem dX0_compute_105 : decode cX0_compute 105 = .ok (.ireturn, 1) := by decide +kernel
theorem dX0_compute_106 : decode cX0_compute 106 = .ok (.aload_n 0, 1) := by decide +kernel
theorem dX0_compute_107 : decode cX0_compute 107 = .ok (.iload_n 3, 1) := by decide +kernel
theorem dX0_compute_108 : decode cX0_compute 108 = .ok (.iload_n 2, 1) := by decide +kernel
theorem dX0_compute_109 : decode cX0_compute 109 = .ok (.iconst (-1), 1) := by decide +kernel
theorem dX0_compute_110 : decode cX0_compute 110 = .ok (.ixor, 1) := by decide +kernel
theorem dX0_compute_111 : decode cX0_compute 111 = .ok (.iconst 1, 1) := by decide +kernel
theorem dX0_compute_112 : decode cX0_compute 112 = .ok (.invokevirtual 21, 3) := by decide +kernel
theorem dX0_compute_115 : decode cX0_compute 115 = .ok (.ireturn, 1) := by decide +kernel
theorem dX0_compute_116 : decode cX0_compute 116 = .ok (.aload_n 0, 1) := by decide +kernel
theorem dX0_compute_117 : decode cX0_compute 117 = .ok (.iload_n 2, 1) := by decide +kernel
theorem dX0_compute_118 : decode cX0_compute 118 = .ok (.iload_n 3, 1) := by decide +kernel
theorem dX0_compute_119 : decode cX0_compute 119 = .ok (.iconst 0, 1) := by decide +kernel
theorem dX0_compute_120 : decode cX0_compute 120 = .ok (.invokevirtual 21, 3) := by decide +kernel
theorem dX0_compute_123 : decode cX0_compute 123 = .ok (.ireturn, 1) := by decide +kernel
theorem dX0_compute_124 : decode cX0_compute 124 = .ok (.aload_n 0, 1) := by decide +kernel
theorem dX0_compute_125 : decode cX0_compute 125 = .ok (.iload_n 2, 1) := by decide +kernel
theorem dX0_compute_126 : decode cX0_compute 126 = .ok (.iload_n 3, 1) := by decide +kernel
theorem dX0_compute_127 : decode cX0_compute 127 = .ok (.aload_n 0, 1) := by decide +kernel
theorem dX0_compute_128 : decode cX0_compute 128 = .ok (.getfield 7, 3) := by decide +kernel
theorem dX0_compute_131 : decode cX0_compute 131 = .ok (.invokevirtual 25, 3) := by decide +kernel
theorem dX0_compute_134 : decode cX0_compute 134 = .ok (.invokevirtual 21, 3) := by decide +kernel
theorem dX0_compute_137 : decode cX0_compute 137 = .ok (.ireturn, 1) := by decide +kernel
theorem dX0_compute_138 : decode cX0_compute 138 = .ok (.aload_n 0, 1) := by decide +kernel
theorem dX0_compute_139 : decode cX0_compute 139 = .ok (.iload_n 2, 1) := by decide +kernel
theorem dX0_compute_140 : decode cX0_compute 140 = .ok (.iload_n 3, 1) := by decide +kernel
theorem dX0_compute_141 : decode cX0_compute 141 = .ok (.iconst (-1), 1) := by decide +kernel
theorem dX0_compute_142 : decode cX0_compute 142 = .ok (.ixor, 1) := by decide +kernel
theorem dX0_compute_143 : decode cX0_compute 143 = .ok (.aload_n 0, 1) := by decide +kernel
theorem dX0_compute_144 : decode cX0_compute 144 = .ok (.getfield 7, 3) := by decide +kernel
theorem dX0_compute_147 : decode cX0_compute 147 = .ok (.invokevirtual 25, 3) := by decide +kernel
theorem dX0_compute_150 : decode cX0_compute 150 = .ok (.invokevirtual 21, 3) := by decide +kernel
theorem dX0_compute_153 : decode cX0_compute 153 = .ok (.ireturn, 1) := by decide +kernel
theorem dX0_compute_154 : decode cX0_compute 154 = .ok (.aload_n 0, 1) := by decide +kernel
theorem dX0_compute_155 : decode cX0_compute 155 = .ok (.iload_n 3, 1) := by decide +kernel
theorem dX0_compute_156 : decode cX0_compute 156 = .ok (.iload_n 2, 1) := by decide +kernel
theorem dX0_compute_157 : decode cX0_compute 157 = .ok (.iconst (-1), 1) := by decide +kernel
theorem dX0_compute_158 : decode cX0_compute 158 = .ok (.ixor, 1) := by decide +kernel
theorem dX0_compute_159 : decode cX0_compute 159 = .ok (.aload_n 0, 1) := by decide +kernel
theorem dX0_compute_160 : decode cX0_compute 160 = .ok (.getfield 7, 3) := by decide +kernel
theorem dX0_compute_163 : decode cX0_compute 163 = .ok (.invokevirtual 25, 3) := by decide +kernel
theorem dX0_compute_166 : decode cX0_compute 166 = .ok (.invokevirtual 21, 3) := by decide +kernel
theorem dX0_compute_169 : decode cX0_compute 169 = .ok (.ireturn, 1) := by decide +kernel
theorem dX0_compute_170 : decode cX0_compute 170 = .ok (.aload_n 0, 1) := by decide +kernel
theorem dX0_compute_171 : decode cX0_compute 171 = .ok (.iload_n 2, 1) := by decide +kernel
theorem dX0_compute_172 : decode cX0_compute 172 = .ok (.iload_n 3, 1) := by decide +kernel
theorem dX0_compute_173 : decode cX0_compute 173 = .ok (.ior, 1) := by decide +kernel
theorem dX0_compute_174 : decode cX0_compute 174 = .ok (.iload 4, 2) := by decide +kernel
theorem dX0_compute_176 : decode cX0_compute 176 = .ok (.invokevirtual 17, 3) := by decide +kernel
theorem dX0_compute_179 : decode cX0_compute 179 = .ok (.ireturn, 1) := by decide +kernel
theorem dX0_compute_180 : decode cX0_compute 180 = .ok (.aload_n 0, 1) := by decide +kernel
theorem dX0_compute_181 : decode cX0_compute 181 = .ok (.iload_n 3, 1) := by decide +kernel
theorem dX0_compute_182 : decode cX0_compute 182 = .ok (.iload 4, 2) := by decide +kernel
theorem dX0_compute_184 : decode cX0_compute 184 = .ok (.invokevirtual 17, 3) := by decide +kernel
theorem dX0_compute_187 : decode cX0_compute 187 = .ok (.ireturn, 1) := by decide +kernel
theorem dX0_compute_188 : decode cX0_compute 188 = .ok (.aload_n 0, 1) := by decide +kernel
theorem dX0_compute_189 : decode cX0_compute 189 = .ok (.iload_n 2, 1) := by decide +kernel
theorem dX0_compute_190 : decode cX0_compute 190 = .ok (.iload_n 3, 1) := by decide +kernel
theorem dX0_compute_191 : decode cX0_compute 191 = .ok (.iconst (-1), 1) := by decide +kernel
theorem dX0_compute_192 : decode cX0_compute 192 = .ok (.ixor, 1) := by decide +kernel
theorem dX0_compute_193 : decode cX0_compute 193 = .ok (.iand, 1) := by decide +kernel
theorem dX0_compute_194 : decode cX0_compute 194 = .ok (.iload 4, 2) := by decide +kernel
theorem dX0_compute_196 : decode cX0_compute 196 = .ok (.invokevirtual 17, 3) := by decide +kernel
theorem dX0_compute_199 : decode cX0_compute 199 = .ok (.ireturn, 1) := by decide +kernel
theorem dX0_compute_200 : decode cX0_compute 200 = .ok (.aload_n 0, 1) := by decide +kernel
theorem dX0_compute_201 : decode cX0_compute 201 = .ok (.iload_n 3, 1) := by decide +kernel
theorem dX0_compute_202 : decode cX0_compute 202 = .ok (.iconst (-1), 1) := by decide +kernel
theorem dX0_compute_203 : decode cX0_compute 203 = .ok (.ixor, 1) := by decide +kernel
theorem dX0_compute_204 : decode cX0_compute 204 = .ok (.iload 4, 2) := by decide +kernel
theorem dX0_compute_206 : decode cX0_compute 206 = .ok (.invokevirtual 17, 3) := by decide +kernel
theorem dX0_compute_209 : decode cX0_compute 209 = .ok (.ireturn, 1) := by decide +kernel
theorem dX0_apply_0 : decode cX0_apply 0 = .ok (.aload_n 0, 1) := by decide +kernel
theorem dX0_apply_1 : decode cX0_apply 1 = .ok (.iload_n 1, 1) := by decide +kernel
theorem dX0_apply_2 : decode cX0_apply 2 = .ok (.iload_n 3, 1) := by decide +kernel
theorem dX0_apply_3 : decode cX0_apply 3 = .ok (.iload 4, 2) := by decide +kernel
theorem dX0_apply_5 : decode cX0_apply 5 = .ok (.aload_n 0, 1) := by decide +kernel
theorem dX0_apply_6 : decode cX0_apply 6 = .ok (.getfield 7, 3) := by decide +kernel
theorem dX0_apply_9 : decode cX0_apply 9 = .ok (.invokevirtual 25, 3) := by decide +kernel
theorem dX0_apply_12 : decode cX0_apply 12 = .ok (.invokevirtual 31, 3) := by decide +kernel
theorem dX0_apply_15 : decode cX0_apply 15 = .ok (.istore 5, 2) := by decide +kernel
theorem dX0_apply_17 : decode cX0_apply 17 = .ok (.aload_n 0, 1) := by decide +kernel
theorem dX0_apply_18 : decode cX0_apply 18 = .ok (.getfield 7, 3) := by decide +kernel
theorem dX0_apply_21 : decode cX0_apply 21 = .ok (.aload_n 0, 1) := by decide +kernel
theorem dX0_apply_22 : decode cX0_apply 22 = .ok (.getfield 13, 3) := by decide +kernel
theorem dX0_apply_25 : decode cX0_apply 25 = .ok (.invokevirtual 35, 3) := by decide +kernel
theorem dX0_apply_28 : decode cX0_apply 28 = .ok (.iload_n 1, 1) := by decide +kernel
theorem dX0_apply_29 : decode cX0_apply 29 = .ok (.invokestatic 39, 3) := by decide +kernel
theorem dX0_apply_32 : decode cX0_apply 32 = .ok (.ifCond .ne 13, 3) := by decide +kernel
theorem dX0_apply_35 : decode cX0_apply 35 = .ok (.aload_n 0, 1) := by decide +kernel
theorem dX0_apply_36 : decode cX0_apply 36 = .ok (.getfield 7, 3) := by decide +kernel
theorem dX0_apply_39 : decode cX0_apply 39 = .ok (.iload_n 2, 1) := by decide +kernel
theorem dX0_apply_40 : decode cX0_apply 40 = .ok (.iload 5, 2) := by decide +kernel
theorem dX0_apply_42 : decode cX0_apply 42 = .ok (.invokevirtual 43, 3) := by decide +kernel
theorem dX0_apply_45 : decode cX0_apply 45 = .ok (.return_, 1) := by decide +kernel
theorem dX0_flagsOfProduct_0 : decode cX0_flagsOfProduct 0 = .ok (.aload_n 0, 1) := by decide +kernel
theorem dX0_flagsOfProduct_1 : decode cX0_flagsOfProduct 1 = .ok (.lload_n 1, 1) := by decide +kernel
theorem dX0_flagsOfProduct_2 : decode cX0_flagsOfProduct 2 = .ok (.lconst 0, 1) := by decide +kernel
theorem dX0_flagsOfProduct_3 : decode cX0_flagsOfProduct 3 = .ok (.lcmp, 1) := by decide +kernel
theorem dX0_flagsOfProduct_4 : decode cX0_flagsOfProduct 4 = .ok (.ifCond .ge 7, 3) := by decide +kernel
theorem dX0_flagsOfProduct_7 : decode cX0_flagsOfProduct 7 = .ok (.iconst 1, 1) := by decide +kernel
theorem dX0_flagsOfProduct_8 : decode cX0_flagsOfProduct 8 = .ok (.goto 4, 3) := by decide +kernel
theorem dX0_flagsOfProduct_11 : decode cX0_flagsOfProduct 11 = .ok (.iconst 0, 1) := by decide +kernel
theorem dX0_flagsOfProduct_12 : decode cX0_flagsOfProduct 12 = .ok (.lload_n 1, 1) := by decide +kernel
theorem dX0_flagsOfProduct_13 : decode cX0_flagsOfProduct 13 = .ok (.lconst 0, 1) := by decide +kernel
theorem dX0_flagsOfProduct_14 : decode cX0_flagsOfProduct 14 = .ok (.lcmp, 1) := by decide +kernel
theorem dX0_flagsOfProduct_15 : decode cX0_flagsOfProduct 15 = .ok (.ifCond .ne 7, 3) := by decide +kernel
theorem dX0_flagsOfProduct_18 : decode cX0_flagsOfProduct 18 = .ok (.iconst 1, 1) := by decide +kernel
theorem dX0_flagsOfProduct_19 : decode cX0_flagsOfProduct 19 = .ok (.goto 4, 3) := by decide +kernel
theorem dX0_flagsOfProduct_22 : decode cX0_flagsOfProduct 22 = .ok (.iconst 0, 1) := by decide +kernel
theorem dX0_flagsOfProduct_23 : decode cX0_flagsOfProduct 23 = .ok (.aload_n 0, 1) := by decide +kernel
theorem dX0_flagsOfProduct_24 : decode cX0_flagsOfProduct 24 = .ok (.getfield 7, 3) := by decide +kernel
theorem dX0_flagsOfProduct_27 : decode cX0_flagsOfProduct 27 = .ok (.invokevirtual 25, 3) := by decide +kernel
theorem dX0_flagsOfProduct_30 : decode cX0_flagsOfProduct 30 = .ok (.aload_n 0, 1) := by decide +kernel
theorem dX0_flagsOfProduct_31 : decode cX0_flagsOfProduct 31 = .ok (.getfield 7, 3) := by decide +kernel
theorem dX0_flagsOfProduct_34 : decode cX0_flagsOfProduct 34 = .ok (.invokevirtual 47, 3) := by decide +kernel
theorem dX0_flagsOfProduct_37 : decode cX0_flagsOfProduct 37 = .ok (.invokevirtual 50, 3) := by decide +kernel
theorem dX0_flagsOfProduct_40 : decode cX0_flagsOfProduct 40 = .ok (.aload_n 0, 1) := by decide +kernel
theorem dX0_flagsOfProduct_41 : decode cX0_flagsOfProduct 41 = .ok (.getfield 7, 3) := by decide +kernel
theorem dX0_flagsOfProduct_44 : decode cX0_flagsOfProduct 44 = .ok (.aload_n 0, 1) := by decide +kernel
theorem dX0_flagsOfProduct_45 : decode cX0_flagsOfProduct 45 = .ok (.getfield 13, 3) := by decide +kernel
theorem dX0_flagsOfProduct_48 : decode cX0_flagsOfProduct 48 = .ok (.invokevirtual 35, 3) := by decide +kernel
theorem dX0_flagsOfProduct_51 : decode cX0_flagsOfProduct 51 = .ok (.return_, 1) := by decide +kernel
theorem dX0_logic_0 : decode cX0_logic 0 = .ok (.aload_n 0, 1) := by decide +kernel
theorem dX0_logic_1 : decode cX0_logic 1 = .ok (.iload_n 1, 1) := by decide +kernel
theorem dX0_logic_2 : decode cX0_logic 2 = .ok (.ifCond .ge 7, 3) := by decide +kernel
theorem dX0_logic_5 : decode cX0_logic 5 = .ok (.iconst 1, 1) := by decide +kernel
theorem dX0_logic_6 : decode cX0_logic 6 = .ok (.goto 4, 3) := by decide +kernel
theorem dX0_logic_9 : decode cX0_logic 9 = .ok (.iconst 0, 1) := by decide +kernel
theorem dX0_logic_10 : decode cX0_logic 10 = .ok (.iload_n 1, 1) := by decide +kernel
theorem dX0_logic_11 : decode cX0_logic 11 = .ok (.ifCond .ne 7, 3) := by decide +kernel
theorem dX0_logic_14 : decode cX0_logic 14 = .ok (.iconst 1, 1) := by decide +kernel
theorem dX0_logic_15 : decode cX0_logic 15 = .ok (.goto 4, 3) := by decide +kernel
theorem dX0_logic_18 : decode cX0_logic 18 = .ok (.iconst 0, 1) := by decide +kernel
theorem dX0_logic_19 : decode cX0_logic 19 = .ok (.iload_n 2, 1) := by decide +kernel
theorem dX0_logic_20 : decode cX0_logic 20 = .ok (.aload_n 0, 1) := by decide +kernel
theorem dX0_logic_21 : decode cX0_logic 21 = .ok (.getfield 7, 3) := by decide +kernel
theorem dX0_logic_24 : decode cX0_logic 24 = .ok (.invokevirtual 47, 3) := by decide +kernel
theorem dX0_logic_27 : decode cX0_logic 27 = .ok (.invokevirtual 50, 3) := by decide +kernel
theorem dX0_logic_30 : decode cX0_logic 30 = .ok (.iload_n 1, 1) := by decide +kernel
theorem dX0_logic_31 : decode cX0_logic 31 = .ok (.ireturn, 1) := by decide +kernel
theorem dX0_sum_0 : decode cX0_sum 0 = .ok (.iload_n 1, 1) := by decide +kernel
theorem dX0_sum_1 : decode cX0_sum 1 = .ok (.i2l, 1) := by decide +kernel
theorem dX0_sum_2 : decode cX0_sum 2 = .ok (.ldc2_w 54, 3) := by decide +kernel
theorem dX0_sum_5 : decode cX0_sum 5 = .ok (.land, 1) := by decide +kernel
theorem dX0_sum_6 : decode cX0_sum 6 = .ok (.iload_n 2, 1) := by decide +kernel
theorem dX0_sum_7 : decode cX0_sum 7 = .ok (.i2l, 1) := by decide +kernel
theorem dX0_sum_8 : decode cX0_sum 8 = .ok (.ldc2_w 54, 3) := by decide +kernel
theorem dX0_sum_11 : decode cX0_sum 11 = .ok (.land, 1) := by decide +kernel
theorem dX0_sum_12 : decode cX0_sum 12 = .ok (.ladd, 1) := by decide +kernel
theorem dX0_sum_13 : decode cX0_sum 13 = .ok (.iload_n 3, 1) := by decide +kernel
theorem dX0_sum_14 : decode cX0_sum 14 = .ok (.i2l, 1) := by decide +kernel
theorem dX0_sum_15 : decode cX0_sum 15 = .ok (.ladd, 1) := by decide +kernel
theorem dX0_sum_16 : decode cX0_sum 16 = .ok (.lstore 4, 2) := by decide +kernel
theorem dX0_sum_18 : decode cX0_sum 18 = .ok (.lload 4, 2) := by decide +kernel
theorem dX0_sum_20 : decode cX0_sum 20 = .ok (.l2i, 1) := by decide +kernel
theorem dX0_sum_21 : decode cX0_sum 21 = .ok (.istore 6, 2) := by decide +kernel
theorem dX0_sum_23 : decode cX0_sum 23 = .ok (.iload_n 1, 1) := by decide +kernel
theorem dX0_sum_24 : decode cX0_sum 24 = .ok (.iload 6, 2) := by decide +kernel
theorem dX0_sum_26 : decode cX0_sum 26 = .ok (.ixor, 1) := by decide +kernel
theorem dX0_sum_27 : decode cX0_sum 27 = .ok (.iload_n 2, 1) := by decide +kernel
theorem dX0_sum_28 : decode cX0_sum 28 = .ok (.iload 6, 2) := by decide +kernel
theorem dX0_sum_30 : decode cX0_sum 30 = .ok (.ixor, 1) := by decide +kernel
theorem dX0_sum_31 : decode cX0_sum 31 = .ok (.iand, 1) := by decide +kernel
theorem dX0_sum_32 : decode cX0_sum 32 = .ok (.bipush 31, 2) := by decide +kernel
theorem dX0_sum_34 : decode cX0_sum 34 = .ok (.iushr, 1) := by decide +kernel
theorem dX0_sum_35 : decode cX0_sum 35 = .ok (.istore 7, 2) := by decide +kernel
theorem dX0_sum_37 : decode cX0_sum 37 = .ok (.aload_n 0, 1) := by decide +kernel
theorem dX0_sum_38 : decode cX0_sum 38 = .ok (.iload 6, 2) := by decide +kernel
theorem dX0_sum_40 : decode cX0_sum 40 = .ok (.ifCond .ge 7, 3) := by decide +kernel
theorem dX0_sum_43 : decode cX0_sum 43 = .ok (.iconst 1, 1) := by decide +kernel
theorem dX0_sum_44 : decode cX0_sum 44 = .ok (.goto 4, 3) := by decide +kernel
theorem dX0_sum_47 : decode cX0_sum 47 = .ok (.iconst 0, 1) := by decide +kernel
theorem dX0_sum_48 : decode cX0_sum 48 = .ok (.iload 6, 2) := by decide +kernel
theorem dX0_sum_50 : decode cX0_sum 50 = .ok (.ifCond .ne 7, 3) := by decide +kernel
theorem dX0_sum_53 : decode cX0_sum 53 = .ok (.iconst 1, 1) := by decide +kernel
theorem dX0_sum_54 : decode cX0_sum 54 = .ok (.goto 4, 3) := by decide +kernel
theorem dX0_sum_57 : decode cX0_sum 57 = .ok (.iconst 0, 1) := by decide +kernel
theorem dX0_sum_58 : decode cX0_sum 58 = .ok (.lload 4, 2) := by decide +kernel
theorem dX0_sum_60 : decode cX0_sum 60 = .ok (.bipush 32, 2) := by decide +kernel
theorem dX0_sum_62 : decode cX0_sum 62 = .ok (.lushr, 1) := by decide +kernel
theorem dX0_sum_63 : decode cX0_sum 63 = .ok (.l2i, 1) := by decide +kernel
theorem dX0_sum_64 : decode cX0_sum 64 = .ok (.iload 7, 2) := by decide +kernel
theorem dX0_sum_66 : decode cX0_sum 66 = .ok (.invokevirtual 50, 3) := by decide +kernel
theorem dX0_sum_69 : decode cX0_sum 69 = .ok (.iload 6, 2) := by decide +kernel
theorem dX0_sum_71 : decode cX0_sum 71 = .ok (.ireturn, 1) := by decide +kernel
theorem dX0_keep_0 : decode cX0_keep 0 = .ok (.aload_n 0, 1) := by decide +kernel
theorem dX0_keep_1 : decode cX0_keep 1 = .ok (.iload_n 1, 1) := by decide +kernel
theorem dX0_keep_2 : decode cX0_keep 2 = .ok (.ifCond .eq 8, 3) := by decide +kernel
theorem dX0_keep_5 : decode cX0_keep 5 = .ok (.ldc 56, 2) := by decide +kernel
theorem dX0_keep_7 : decode cX0_keep 7 = .ok (.goto 4, 3) := by decide +kernel
theorem dX0_keep_10 : decode cX0_keep 10 = .ok (.iconst 0, 1) := by decide +kernel
theorem dX0_keep_11 : decode cX0_keep 11 = .ok (.iload_n 2, 1) := by decide +kernel
theorem dX0_keep_12 : decode cX0_keep 12 = .ok (.ifCond .eq 8, 3) := by decide +kernel
theorem dX0_keep_15 : decode cX0_keep 15 = .ok (.ldc 57, 2) := by decide +kernel
theorem dX0_keep_17 : decode cX0_keep 17 = .ok (.goto 4, 3) := by decide +kernel
theorem dX0_keep_20 : decode cX0_keep 20 = .ok (.iconst 0, 1) := by decide +kernel
theorem dX0_keep_21 : decode cX0_keep 21 = .ok (.ior, 1) := by decide +kernel
theorem dX0_keep_22 : decode cX0_keep 22 = .ok (.iload_n 3, 1) := by decide +kernel
theorem dX0_keep_23 : decode cX0_keep 23 = .ok (.bipush 29, 2) := by decide +kernel
theorem dX0_keep_25 : decode cX0_keep 25 = .ok (.ishl, 1) := by decide +kernel
theorem dX0_keep_26 : decode cX0_keep 26 = .ok (.ior, 1) := by decide +kernel
theorem dX0_keep_27 : decode cX0_keep 27 = .ok (.iload 4, 2) := by decide +kernel
theorem dX0_keep_29 : decode cX0_keep 29 = .ok (.bipush 28, 2) := by decide +kernel
theorem dX0_keep_31 : decode cX0_keep 31 = .ok (.ishl, 1) := by decide +kernel
theorem dX0_keep_32 : decode cX0_keep 32 = .ok (.ior, 1) := by decide +kernel
theorem dX0_keep_33 : decode cX0_keep 33 = .ok (.putfield 13, 3) := by decide +kernel
theorem dX0_keep_36 : decode cX0_keep 36 = .ok (.return_, 1) := by decide +kernel
theorem dX1_init_0 : decode cX1_init 0 = .ok (.aload_n 0, 1) := by decide +kernel
theorem dX1_init_1 : decode cX1_init 1 = .ok (.invokespecial 3, 3) := by decide +kernel
theorem dX1_init_4 : decode cX1_init 4 = .ok (.aload_n 0, 1) := by decide +kernel
theorem dX1_init_5 : decode cX1_init 5 = .ok (.aload_n 1, 1) := by decide +kernel
theorem dX1_init_6 : decode cX1_init 6 = .ok (.putfield 9, 3) := by decide +kernel
theorem dX1_init_9 : decode cX1_init 9 = .ok (.aload_n 0, 1) := by decide +kernel
theorem dX1_init_10 : decode cX1_init 10 = .ok (.aload_n 2, 1) := by decide +kernel
theorem dX1_init_11 : decode cX1_init 11 = .ok (.putfield 15, 3) := by decide +kernel
theorem dX1_init_14 : decode cX1_init 14 = .ok (.aload_n 0, 1) := by decide +kernel
theorem dX1_init_15 : decode cX1_init 15 = .ok (.aload_n 3, 1) := by decide +kernel
theorem dX1_init_16 : decode cX1_init 16 = .ok (.putfield 19, 3) := by decide +kernel
theorem dX1_init_19 : decode cX1_init 19 = .ok (.aload_n 0, 1) := by decide +kernel
theorem dX1_init_20 : decode cX1_init 20 = .ok (.aload 4, 2) := by decide +kernel
theorem dX1_init_22 : decode cX1_init 22 = .ok (.putfield 23, 3) := by decide +kernel
theorem dX1_init_25 : decode cX1_init 25 = .ok (.return_, 1) := by decide +kernel
theorem dX1_perform_0 : decode cX1_perform 0 = .ok (.iload_n 1, 1) := by decide +kernel
theorem dX1_perform_1 : decode cX1_perform 1 = .ok (.bipush 28, 2) := by decide +kernel
theorem dX1_perform_3 : decode cX1_perform 3 = .ok (.iushr, 1) := by decide +kernel
theorem dX1_perform_4 : decode cX1_perform 4 = .ok (.istore_n 2, 1) := by decide +kernel
theorem dX1_perform_5 : decode cX1_perform 5 = .ok (.iload_n 2, 1) := by decide +kernel
theorem dX1_perform_6 : decode cX1_perform 6 = .ok (.bipush 15, 2) := by decide +kernel
theorem dX1_perform_8 : decode cX1_perform 8 = .ok (.if_icmp .ne 5, 3) := by decide +kernel
theorem dX1_perform_11 : decode cX1_perform 11 = .ok (.iconst 0, 1) := by decide +kernel
theorem dX1_perform_12 : decode cX1_perform 12 = .ok (.ireturn, 1) := by decide +kernel
theorem dX1_perform_13 : decode cX1_perform 13 = .ok (.aload_n 0, 1) := by decide +kernel
theorem dX1_perform_14 : decode cX1_perform 14 = .ok (.getfield 9, 3) := by decide +kernel
theorem dX1_perform_17 : decode cX1_perform 17 = .ok (.iload_n 2, 1) := by decide +kernel
theorem dX1_perform_18 : decode cX1_perform 18 = .ok (.invokevirtual 29, 3) := by decide +kernel
theorem dX1_perform_21 : decode cX1_perform 21 = .ok (.ifCond .ne 5, 3) := by decide +kernel
theorem dX1_perform_24 : decode cX1_perform 24 = .ok (.iconst (-1), 1) := by decide +kernel
theorem dX1_perform_25 : decode cX1_perform 25 = .ok (.ireturn, 1) := by decide +kernel
theorem dX1_perform_26 : decode cX1_perform 26 = .ok (.iload_n 1, 1) := by decide +kernel
theorem dX1_perform_27 : decode cX1_perform 27 = .ok (.bipush 25, 2) := by decide +kernel
theorem dX1_perform_29 : decode cX1_perform 29 = .ok (.invokestatic 35, 3) := by decide +kernel
theorem dX1_perform_32 : decode cX1_perform 32 = .ok (.tableswitch 247 0 7 #[48, 181, 211, 211, 217, 226, 247, 232], 48) := by decide +kernel
theorem dX1_perform_80 : decode cX1_perform 80 = .ok (.iload_n 1, 1) := by decide +kernel
theorem dX1_perform_81 : decode cX1_perform 81 = .ok (.ldc 41, 2) := by decide +kernel
theorem dX1_perform_83 : decode cX1_perform 83 = .ok (.iand, 1) := by decide +kernel
theorem dX1_perform_84 : decode cX1_perform 84 = .ok (.ldc 42, 2) := by decide +kernel
theorem dX1_perform_86 : decode cX1_perform 86 = .ok (.if_icmp .ne 24, 3) := by decide +kernel
theorem dX1_perform_89 : decode cX1_perform 89 = .ok (.aload_n 0, 1) := by decide +kernel
theorem dX1_perform_90 : decode cX1_perform 90 = .ok (.getfield 9, 3) := by decide +kernel
theorem dX1_perform_93 : decode cX1_perform 93 = .ok (.aload_n 0, 1) := by decide +kernel
theorem dX1_perform_94 : decode cX1_perform 94 = .ok (.getfield 9, 3) := by decide +kernel
theorem dX1_perform_97 : decode cX1_perform 97 = .ok (.iload_n 1, 1) := by decide +kernel
theorem dX1_perform_98 : decode cX1_perform 98 = .ok (.iconst 0, 1) := by decide +kernel
theorem dX1_perform_99 : decode cX1_perform 99 = .ok (.invokestatic 43, 3) := by decide +kernel
theorem dX1_perform_102 : decode cX1_perform 102 = .ok (.invokevirtual 46, 3) := by decide +kernel
theorem dX1_perform_105 : decode cX1_perform 105 = .ok (.invokevirtual 50, 3) := by decide +kernel
theorem dX1_perform_108 : decode cX1_perform 108 = .ok (.iconst (-1), 1) := by decide +kernel
theorem dX1_perform_109 : decode cX1_perform 109 = .ok (.ireturn, 1) := by decide +kernel
theorem dX1_perform_110 : decode cX1_perform 110 = .ok (.iload_n 1, 1) := by decide +kernel
theorem dX1_perform_111 : decode cX1_perform 111 = .ok (.ldc 54, 2) := by decide +kernel
theorem dX1_perform_113 : decode cX1_perform 113 = .ok (.iand, 1) := by decide +kernel
theorem dX1_perform_114 : decode cX1_perform 114 = .ok (.sipush 144, 3) := by decide +kernel
theorem dX1_perform_117 : decode cX1_perform 117 = .ok (.if_icmp .ne 9, 3) := by decide +kernel
theorem dX1_perform_120 : decode cX1_perform 120 = .ok (.aload_n 0, 1) := by decide +kernel
theorem dX1_perform_121 : decode cX1_perform 121 = .ok (.iload_n 1, 1) := by decide +kernel
theorem dX1_perform_122 : decode cX1_perform 122 = .ok (.invokevirtual 55, 3) := by decide +kernel
theorem dX1_perform_125 : decode cX1_perform 125 = .ok (.ireturn, 1) := by decide +kernel
theorem dX1_perform_126 : decode cX1_perform 126 = .ok (.iload_n 1, 1) := by decide +kernel
theorem dX1_perform_127 : decode cX1_perform 127 = .ok (.ldc 58, 2) := by decide +kernel
theorem dX1_perform_129 : decode cX1_perform 129 = .ok (.iand, 1) := by decide +kernel
theorem dX1_perform_130 : decode cX1_perform 130 = .ok (.ldc 59, 2) := by decide +kernel
theorem dX1_perform_132 : decode cX1_perform 132 = .ok (.if_icmp .ne 9, 3) := by decide +kernel
theorem dX1_perform_135 : decode cX1_perform 135 = .ok (.aload_n 0, 1) := by decide +kernel
theorem dX1_perform_136 : decode cX1_perform 136 = .ok (.iload_n 1, 1) := by decide +kernel
theorem dX1_perform_137 : decode cX1_perform 137 = .ok (.invokevirtual 60, 3) := by decide +kernel
theorem dX1_perform_140 : decode cX1_perform 140 = .ok (.ireturn, 1) := by decide +kernel
theorem dX1_perform_141 : decode cX1_perform 141 = .ok (.iload_n 1, 1) := by decide +kernel
theorem dX1_perform_142 : decode cX1_perform 142 = .ok (.sipush 144, 3) := by decide +kernel
theorem dX1_perform_145 : decode cX1_perform 145 = .ok (.iand, 1) := by decide +kernel
theorem dX1_perform_146 : decode cX1_perform 146 = .ok (.sipush 144, 3) := by decide +kernel
theorem dX1_perform_149 : decode cX1_perform 149 = .ok (.if_icmp .ne 16, 3) := by decide +kernel
theorem dX1_perform_152 : decode cX1_perform 152 = .ok (.iload_n 1, 1) := by decide +kernel
theorem dX1_perform_153 : decode cX1_perform 153 = .ok (.bipush 96, 2) := by decide +kernel
theorem dX1_perform_155 : decode cX1_perform 155 = .ok (.iand, 1) := by decide +kernel
theorem dX1_perform_156 : decode cX1_perform 156 = .ok (.ifCond .eq 9, 3) := by decide +kernel
theorem dX1_perform_159 : decode cX1_perform 159 = .ok (.aload_n 0, 1) := by decide +kernel
theorem dX1_perform_160 : decode cX1_perform 160 = .ok (.iload_n 1, 1) := by decide +kernel
theorem dX1_perform_161 : decode cX1_perform 161 = .ok (.invokevirtual 63, 3) := by decide +kernel
theorem dX1_perform_164 : decode cX1_perform 164 = .ok (.ireturn, 1) := by decide +kernel
theorem dX1_perform_165 : decode cX1_perform 165 = .ok (.iload_n 1, 1) := by decide +kernel
theorem dX1_perform_166 : decode cX1_perform 166 = .ok (.ldc 66, 2) := by decide +kernel
theorem dX1_perform_168 : decode cX1_perform 168 = .ok (.iand, 1) := by decide +kernel
theorem dX1_perform_169 : decode cX1_perform 169 = .ok (.ldc 67, 2) := by decide +kernel
theorem dX1_perform_171 : decode cX1_perform 171 = .ok (.if_icmp .ne 9, 3) := by decide +kernel
theorem dX1_perform_174 : decode cX1_perform 174 = .ok (.aload_n 0, 1) := by decide +kernel
theorem dX1_perform_175 : decode cX1_perform 175 = .ok (.iload_n 1, 1) := by decide +kernel
theorem dX1_perform_176 : decode cX1_perform 176 = .ok (.invokevirtual 68, 3) := by decide +kernel
theorem dX1_perform_179 : decode cX1_perform 179 = .ok (.ireturn, 1) := by decide +kernel
theorem dX1_perform_180 : decode cX1_perform 180 = .ok (.iload_n 1, 1) := by decide +kernel
theorem dX1_perform_181 : decode cX1_perform 181 = .ok (.ldc 71, 2) := by decide +kernel
theorem dX1_perform_183 : decode cX1_perform 183 = .ok (.iand, 1) := by decide +kernel
theorem dX1_perform_184 : decode cX1_perform 184 = .ok (.ldc 72, 2) := by decide +kernel
theorem dX1_perform_186 : decode cX1_perform 186 = .ok (.if_icmp .ne 21, 3) := by decide +kernel
theorem dX1_perform_189 : decode cX1_perform 189 = .ok (.aload_n 0, 1) := by decide +kernel
theorem dX1_perform_190 : decode cX1_perform 190 = .ok (.iload_n 1, 1) := by decide +kernel
theorem dX1_perform_191 : decode cX1_perform 191 = .ok (.aload_n 0, 1) := by decide +kernel
theorem dX1_perform_192 : decode cX1_perform 192 = .ok (.getfield 9, 3) := by decide +kernel
theorem dX1_perform_195 : decode cX1_perform 195 = .ok (.iload_n 1, 1) := by decide +kernel
theorem dX1_perform_196 : decode cX1_perform 196 = .ok (.iconst 0, 1) := by decide +kernel
theorem dX1_perform_197 : decode cX1_perform 197 = .ok (.invokestatic 43, 3) := by decide +kernel
theorem dX1_perform_200 : decode cX1_perform 200 = .ok (.invokevirtual 46, 3) := by decide +kernel
theorem dX1_perform_203 : decode cX1_perform 203 = .ok (.invokevirtual 73, 3) := by decide +kernel
theorem dX1_perform_206 : decode cX1_perform 206 = .ok (.ireturn, 1) := by decide +kernel
theorem dX1_perform_207 : decode cX1_perform 207 = .ok (.aload_n 0, 1) := by decide +kernel
theorem dX1_perform_208 : decode cX1_perform 208 = .ok (.iload_n 1, 1) := by decide +kernel
theorem dX1_perform_209 : decode cX1_perform 209 = .ok (.invokevirtual 76, 3) := by decide +kernel
theorem dX1_perform_212 : decode cX1_perform 212 = .ok (.ireturn, 1) := by decide +kernel
theorem dX1_perform_213 : decode cX1_perform 213 = .ok (.iload_n 1, 1) := by decide +kernel
theorem dX1_perform_214 : decode cX1_perform 214 = .ok (.ldc 79, 2) := by decide +kernel
theorem dX1_perform_216 : decode cX1_perform 216 = .ok (.iand, 1) := by decide +kernel
theorem dX1_perform_217 : decode cX1_perform 217 = .ok (.ldc 80, 2) := by decide +kernel
theorem dX1_perform_219 : decode cX1_perform 219 = .ok (.if_icmp .ne 18, 3) := by decide +kernel
theorem dX1_perform_222 : decode cX1_perform 222 = .ok (.aload_n 0, 1) := by decide +kernel
theorem dX1_perform_223 : decode cX1_perform 223 = .ok (.iload_n 1, 1) := by decide +kernel
theorem dX1_perform_224 : decode cX1_perform 224 = .ok (.aload_n 0, 1) := by decide +kernel
theorem dX1_perform_225 : decode cX1_perform 225 = .ok (.getfield 15, 3) := by decide +kernel
theorem dX1_perform_228 : decode cX1_perform 228 = .ok (.iload_n 1, 1) := by decide +kernel
theorem dX1_perform_229 : decode cX1_perform 229 = .ok (.iconst 0, 1) := by decide +kernel
theorem dX1_perform_230 : decode cX1_perform 230 = .ok (.invokevirtual 81, 3) := by decide +kernel
theorem dX1_perform_233 : decode cX1_perform 233 = .ok (.invokevirtual 73, 3) := by decide +kernel
theorem dX1_perform_236 : decode cX1_perform 236 = .ok (.ireturn, 1) := by decide +kernel
theorem dX1_perform_237 : decode cX1_perform 237 = .ok (.aload_n 0, 1) := by decide +kernel
theorem dX1_perform_238 : decode cX1_perform 238 = .ok (.iload_n 1, 1) := by decide +kernel
theorem dX1_perform_239 : decode cX1_perform 239 = .ok (.invokevirtual 76, 3) := by decide +kernel
theorem dX1_perform_242 : decode cX1_perform 242 = .ok (.ireturn, 1) := by decide +kernel
theorem dX1_perform_243 : decode cX1_perform 243 = .ok (.aload_n 0, 1) := by decide +kernel
theorem dX1_perform_244 : decode cX1_perform 244 = .ok (.iload_n 1, 1) := by decide +kernel
theorem dX1_perform_245 : decode cX1_perform 245 = .ok (.invokevirtual 86, 3) := by decide +kernel
theorem dX1_perform_248 : decode cX1_perform 248 = .ok (.ireturn, 1) := by decide +kernel
theorem dX1_perform_249 : decode cX1_perform 249 = .ok (.aload_n 0, 1) := by decide +kernel
theorem dX1_perform_250 : decode cX1_perform 250 = .ok (.getfield 23, 3) := by decide +kernel
theorem dX1_perform_253 : decode cX1_perform 253 = .ok (.iload_n 1, 1) := by decide +kernel
theorem dX1_perform_254 : decode cX1_perform 254 = .ok (.invokevirtual 89, 3) := by decide +kernel
theorem dX1_perform_257 : decode cX1_perform 257 = .ok (.ireturn, 1) := by decide +kernel
theorem dX1_perform_258 : decode cX1_perform 258 = .ok (.aload_n 0, 1) := by decide +kernel
theorem dX1_perform_259 : decode cX1_perform 259 = .ok (.iload_n 1, 1) := by decide +kernel
theorem dX1_perform_260 : decode cX1_perform 260 = .ok (.invokevirtual 94, 3) := by decide +kernel
theorem dX1_perform_263 : decode cX1_perform 263 = .ok (.ireturn, 1) := by decide +kernel
theorem dX1_perform_264 : decode cX1_perform 264 = .ok (.iload_n 1, 1) := by decide +kernel
theorem dX1_perform_265 : decode cX1_perform 265 = .ok (.bipush 24, 2) := by decide +kernel
theorem dX1_perform_267 : decode cX1_perform 267 = .ok (.invokestatic 97, 3) := by decide +kernel
theorem dX1_perform_270 : decode cX1_perform 270 = .ok (.ifCond .eq 7, 3) := by decide +kernel
theorem dX1_perform_273 : decode cX1_perform 273 = .ok (.iconst 1, 1) := by decide +kernel
theorem dX1_perform_274 : decode cX1_perform 274 = .ok (.goto 4, 3) := by decide +kernel
theorem dX1_perform_277 : decode cX1_perform 277 = .ok (.iconst 0, 1) := by decide +kernel
theorem dX1_perform_278 : decode cX1_perform 278 = .ok (.ireturn, 1) := by decide +kernel
theorem dX1_perform_279 : decode cX1_perform 279 = .ok (.iconst 0, 1) := by decide +kernel
theorem dX1_perform_280 : decode cX1_perform 280 = .ok (.ireturn, 1) := by decide +kernel
theorem dX1_multiply_0 : decode cX1_multiply 0 = .ok (.iload_n 1, 1) := by decide +kernel
theorem dX1_multiply_1 : decode cX1_multiply 1 = .ok (.bipush 16, 2) := by decide +kernel
theorem dX1_multiply_3 : decode cX1_multiply 3 = .ok (.invokestatic 43, 3) := by decide +kernel
theorem dX1_multiply_6 : decode cX1_multiply 6 = .ok (.istore_n 2, 1) := by decide +kernel
theorem dX1_multiply_7 : decode cX1_multiply 7 = .ok (.iload_n 1, 1) := by decide +kernel
theorem dX1_multiply_8 : decode cX1_multiply 8 = .ok (.bipush 12, 2) := by decide +kernel
theorem dX1_multiply_10 : decode cX1_multiply 10 = .ok (.invokestatic 43, 3) := by decide +kernel
theorem dX1_multiply_13 : decode cX1_multiply 13 = .ok (.istore_n 3, 1) := by decide +kernel
theorem dX1_multiply_14 : decode cX1_multiply 14 = .ok (.iload_n 1, 1) := by decide +kernel
theorem dX1_multiply_15 : decode cX1_multiply 15 = .ok (.bipush 8, 2) := by decide +kernel
theorem dX1_multiply_17 : decode cX1_multiply 17 = .ok (.invokestatic 43, 3) := by decide +kernel
theorem dX1_multiply_20 : decode cX1_multiply 20 = .ok (.istore 4, 2) := by decide +kernel
theorem dX1_multiply_22 : decode cX1_multiply 22 = .ok (.iload_n 1, 1) := by decide +kernel
theorem dX1_multiply_23 : decode cX1_multiply 23 = .ok (.iconst 0, 1) := by decide +kernel
theorem dX1_multiply_24 : decode cX1_multiply 24 = .ok (.invokestatic 43, 3) := by decide +kernel
theorem dX1_multiply_27 : decode cX1_multiply 27 = .ok (.istore 5, 2) := by decide +kernel
theorem dX1_multiply_29 : decode cX1_multiply 29 = .ok (.iload_n 2, 1) := by decide +kernel
theorem dX1_multiply_30 : decode cX1_multiply 30 = .ok (.bipush 15, 2) := by decide +kernel
theorem dX1_multiply_32 : decode cX1_multiply 32 = .ok (.if_icmp .eq 23, 3) := by decide +kernel
theorem dX1_multiply_35 : decode cX1_multiply 35 = .ok (.iload_n 3, 1) := by decide +kernel
theorem dX1_multiply_36 : decode cX1_multiply 36 = .ok (.bipush 15, 2) := by decide +kernel
theorem dX1_multiply_38 : decode cX1_multiply 38 = .ok (.if_icmp .eq 17, 3) := by decide +kernel
theorem dX1_multiply_41 : decode cX1_multiply 41 = .ok (.iload 4, 2) := by decide +kernel
theorem dX1_multiply_43 : decode cX1_multiply 43 = .ok (.bipush 15, 2) := by decide +kernel
theorem dX1_multiply_45 : decode cX1_multiply 45 = .ok (.if_icmp .eq 10, 3) := by decide +kernel
theorem dX1_multiply_48 : decode cX1_multiply 48 = .ok (.iload 5, 2) := by decide +kernel
theorem dX1_multiply_50 : decode cX1_multiply 50 = .ok (.bipush 15, 2) := by decide +kernel
theorem dX1_multiply_52 : decode cX1_multiply 52 = .ok (.if_icmp .ne 5, 3) := by decide +kernel
theorem dX1_multiply_55 : decode cX1_multiply 55 = .ok (.iconst 0, 1) := by decide +kernel
theorem dX1_multiply_56 : decode cX1_multiply 56 = .ok (.ireturn, 1) := by decide +kernel
theorem dX1_multiply_57 : decode cX1_multiply 57 = .ok (.iload_n 1, 1) := by decide +kernel
theorem dX1_multiply_58 : decode cX1_multiply 58 = .ok (.bipush 23, 2) := by decide +kernel
theorem dX1_multiply_60 : decode cX1_multiply 60 = .ok (.invokestatic 97, 3) := by decide +kernel
theorem dX1_multiply_63 : decode cX1_multiply 63 = .ok (.istore 6, 2) := by decide +kernel
theorem dX1_multiply_65 : decode cX1_multiply 65 = .ok (.iload_n 1, 1) := by decide +kernel
theorem dX1_multiply_66 : decode cX1_multiply 66 = .ok (.bipush 22, 2) := by decide +kernel
theorem dX1_multiply_68 : decode cX1_multiply 68 = .ok (.invokestatic 97, 3) := by decide +kernel
theorem dX1_multiply_71 : decode cX1_multiply 71 = .ok (.istore 7, 2) := by decide +kernel
theorem dX1_multiply_73 : decode cX1_multiply 73 = .ok (.iload 6, 2) := by decide +kernel
theorem dX1_multiply_75 : decode cX1_multiply 75 = .ok (.ifCond .eq 11, 3) := by decide +kernel
theorem dX1_multiply_78 : decode cX1_multiply 78 = .ok (.iload_n 3, 1) := by decide +kernel
theorem dX1_multiply_79 : decode cX1_multiply 79 = .ok (.iload_n 2, 1) := by decide +kernel
theorem dX1_multiply_80 : decode cX1_multiply 80 = .ok (.if_icmp .ne 13, 3) := by decide +kernel
theorem dX1_multiply_83 : decode cX1_multiply 83 = .ok (.goto 8, 3) := by decide +kernel
theorem dX1_multiply_86 : decode cX1_multiply 86 = .ok (.iload 7, 2) := by decide +kernel
theorem dX1_multiply_88 : decode cX1_multiply 88 = .ok (.ifCond .eq 5, 3) := by decide +kernel
theorem dX1_multiply_91 : decode cX1_multiply 91 = .ok (.iconst 0, 1) := by decide +kernel
theorem dX1_multiply_92 : decode cX1_multiply 92 = .ok (.ireturn, 1) := by decide +kernel
theorem dX1_multiply_93 : decode cX1_multiply 93 = .ok (.iload_n 1, 1) := by decide +kernel
theorem dX1_multiply_94 : decode cX1_multiply 94 = .ok (.bipush 21, 2) := by decide +kernel
theorem dX1_multiply_96 : decode cX1_multiply 96 = .ok (.invokestatic 97, 3) := by decide +kernel
theorem dX1_multiply_99 : decode cX1_multiply 99 = .ok (.istore 8, 2) := by decide +kernel
theorem dX1_multiply_101 : decode cX1_multiply 101 = .ok (.iload 6, 2) := by decide +kernel
theorem dX1_multiply_103 : decode cX1_multiply 103 = .ok (.ifCond .eq 89, 3) := by decide +kernel
theorem dX1_multiply_106 : decode cX1_multiply 106 = .ok (.aload_n 0, 1) := by decide +kernel
theorem dX1_multiply_107 : decode cX1_multiply 107 = .ok (.getfield 9, 3) := by decide +kernel
theorem dX1_multiply_110 : decode cX1_multiply 110 = .ok (.iload 5, 2) := by decide +kernel
theorem dX1_multiply_112 : decode cX1_multiply 112 = .ok (.invokevirtual 46, 3) := by decide +kernel
theorem dX1_multiply_115 : decode cX1_multiply 115 = .ok (.aload_n 0, 1) := by decide +kernel
theorem dX1_multiply_116 : decode cX1_multiply 116 = .ok (.getfield 9, 3) := by decide +kernel
theorem dX1_multiply_119 : decode cX1_multiply 119 = .ok (.iload 4, 2) := by decide +kernel
theorem dX1_multiply_121 : decode cX1_multiply 121 = .ok (.invokevirtual 46, 3) := by decide +kernel
theorem dX1_multiply_124 : decode cX1_multiply 124 = .ok (.iload 7, 2) := by decide +kernel
theorem dX1_multiply_126 : decode cX1_multiply 126 = .ok (.invokestatic 101, 3) := by decide +kernel
theorem dX1_multiply_129 : decode cX1_multiply 129 = .ok (.lstore 9, 2) := by decide +kernel
theorem dX1_multiply_131 : decode cX1_multiply 131 = .ok (.lload 9, 2) := by decide +kernel
theorem dX1_multiply_133 : decode cX1_multiply 133 = .ok (.iload 8, 2) := by decide +kernel
theorem dX1_multiply_135 : decode cX1_multiply 135 = .ok (.ifCond .eq 25, 3) := by decide +kernel
theorem dX1_multiply_138 : decode cX1_multiply 138 = .ok (.aload_n 0, 1) := by decide +kernel
theorem dX1_multiply_139 : decode cX1_multiply 139 = .ok (.getfield 9, 3) := by decide +kernel
theorem dX1_multiply_142 : decode cX1_multiply 142 = .ok (.iload_n 2, 1) := by decide +kernel
theorem dX1_multiply_143 : decode cX1_multiply 143 = .ok (.invokevirtual 46, 3) := by decide +kernel
theorem dX1_multiply_146 : decode cX1_multiply 146 = .ok (.aload_n 0, 1) := by decide +kernel
theorem dX1_multiply_147 : decode cX1_multiply 147 = .ok (.getfield 9, 3) := by decide +kernel
theorem dX1_multiply_150 : decode cX1_multiply 150 = .ok (.iload_n 3, 1) := by decide +kernel
theorem dX1_multiply_151 : decode cX1_multiply 151 = .ok (.invokevirtual 46, 3) := by decide +kernel
theorem dX1_multiply_154 : decode cX1_multiply 154 = .ok (.invokestatic 105, 3) := by decide +kernel
theorem dX1_multiply_157 : decode cX1_multiply 157 = .ok (.goto 4, 3) := by decide +kernel
theorem dX1_multiply_160 : decode cX1_multiply 160 = .ok (.lconst 0, 1) := by decide +kernel
theorem dX1_multiply_161 : decode cX1_multiply 161 = .ok (.ladd, 1) := by decide +kernel
theorem dX1_multiply_162 : decode cX1_multiply 162 = .ok (.lstore 9, 2) := by decide +kernel
theorem dX1_multiply_164 : decode cX1_multiply 164 = .ok (.aload_n 0, 1) := by decide +kernel
theorem dX1_multiply_165 : decode cX1_multiply 165 = .ok (.getfield 9, 3) := by decide +kernel
theorem dX1_multiply_168 : decode cX1_multiply 168 = .ok (.iload_n 3, 1) := by decide +kernel
theorem dX1_multiply_169 : decode cX1_multiply 169 = .ok (.lload 9, 2) := by decide +kernel
theorem dX1_multiply_171 : decode cX1_multiply 171 = .ok (.l2i, 1) := by decide +kernel
theorem dX1_multiply_172 : decode cX1_multiply 172 = .ok (.invokevirtual 109, 3) := by decide +kernel
theorem dX1_multiply_175 : decode cX1_multiply 175 = .ok (.aload_n 0, 1) := by decide +kernel
theorem dX1_multiply_176 : decode cX1_multiply 176 = .ok (.getfield 9, 3) := by decide +kernel
theorem dX1_multiply_179 : decode cX1_multiply 179 = .ok (.iload_n 2, 1) := by decide +kernel
theorem dX1_multiply_180 : decode cX1_multiply 180 = .ok (.lload 9, 2) := by decide +kernel
theorem dX1_multiply_182 : decode cX1_multiply 182 = .ok (.bipush 32, 2) := by decide +kernel
theorem dX1_multiply_184 : decode cX1_multiply 184 = .ok (.lushr, 1) := by decide +kernel
theorem dX1_multiply_185 : decode cX1_multiply 185 = .ok (.l2i, 1) := by decide +kernel
theorem dX1_multiply_186 : decode cX1_multiply 186 = .ok (.invokevirtual 109, 3) := by decide +kernel
theorem dX1_multiply_189 : decode cX1_multiply 189 = .ok (.goto 57, 3) := by decide +kernel
theorem dX1_multiply_192 : decode cX1_multiply 192 = .ok (.aload_n 0, 1) := by decide +kernel
theorem dX1_multiply_193 : decode cX1_multiply 193 = .ok (.getfield 9, 3) := by decide +kernel
theorem dX1_multiply_196 : decode cX1_multiply 196 = .ok (.iload 5, 2) := by decide +kernel
theorem dX1_multiply_198 : decode cX1_multiply 198 = .ok (.invokevirtual 46, 3) := by decide +kernel
theorem dX1_multiply_201 : decode cX1_multiply 201 = .ok (.aload_n 0, 1) := by decide +kernel
theorem dX1_multiply_202 : decode cX1_multiply 202 = .ok (.getfield 9, 3) := by decide +kernel
theorem dX1_multiply_205 : decode cX1_multiply 205 = .ok (.iload 4, 2) := by decide +kernel
theorem dX1_multiply_207 : decode cX1_multiply 207 = .ok (.invokevirtual 46, 3) := by decide +kernel
theorem dX1_multiply_210 : decode cX1_multiply 210 = .ok (.imul, 1) := by decide +kernel
theorem dX1_multiply_211 : decode cX1_multiply 211 = .ok (.iload 8, 2) := by decide +kernel
theorem dX1_multiply_213 : decode cX1_multiply 213 = .ok (.ifCond .eq 14, 3) := by decide +kernel
theorem dX1_multiply_216 : decode cX1_multiply 216 = .ok (.aload_n 0, 1) := by decide +kernel
theorem dX1_multiply_217 : decode cX1_multiply 217 = .ok (.getfield 9, 3) := by decide +kernel
theorem dX1_multiply_220 : decode cX1_multiply 220 = .ok (.iload_n 3, 1) := by decide +kernel
theorem dX1_multiply_221 : decode cX1_multiply 221 = .ok (.invokevirtual 46, 3) := by decide +kernel
theorem dX1_multiply_224 : decode cX1_multiply 224 = .ok (.goto 4, 3) := by decide +kernel
theorem dX1_multiply_227 : decode cX1_multiply 227 = .ok (.iconst 0, 1) := by decide +kernel
theorem dX1_multiply_228 : decode cX1_multiply 228 = .ok (.iadd, 1) := by decide +kernel
theorem dX1_multiply_229 : decode cX1_multiply 229 = .ok (.istore 11, 2) := by decide +kernel
theorem dX1_multiply_231 : decode cX1_multiply 231 = .ok (.aload_n 0, 1) := by decide +kernel
theorem dX1_multiply_232 : decode cX1_multiply 232 = .ok (.getfield 9, 3) := by decide +kernel
theorem dX1_multiply_235 : decode cX1_multiply 235 = .ok (.iload_n 2, 1) := by decide +kernel
theorem dX1_multiply_236 : decode cX1_multiply 236 = .ok (.iload 11, 2) := by decide +kernel
theorem dX1_multiply_238 : decode cX1_multiply 238 = .ok (.invokevirtual 109, 3) := by decide +kernel
theorem dX1_multiply_241 : decode cX1_multiply 241 = .ok (.iload 11, 2) := by decide +kernel
theorem dX1_multiply_243 : decode cX1_multiply 243 = .ok (.i2l, 1) := by decide +kernel
theorem dX1_multiply_244 : decode cX1_multiply 244 = .ok (.lstore 9, 2) := by decide +kernel
theorem dX1_multiply_246 : decode cX1_multiply 246 = .ok (.iload_n 1, 1) := by decide +kernel
theorem dX1_multiply_247 : decode cX1_multiply 247 = .ok (.bipush 20, 2) := by decide +kernel
theorem dX1_multiply_249 : decode cX1_multiply 249 = .ok (.invokestatic 97, 3) := by decide +kernel
theorem dX1_multiply_252 : decode cX1_multiply 252 = .ok (.ifCond .eq 12, 3) := by decide +kernel
theorem dX1_multiply_255 : decode cX1_multiply 255 = .ok (.aload_n 0, 1) := by decide +kernel
theorem dX1_multiply_256 : decode cX1_multiply 256 = .ok (.getfield 19, 3) := by decide +kernel
theorem dX1_multiply_259 : decode cX1_multiply 259 = .ok (.lload 9, 2) := by decide +kernel
theorem dX1_multiply_261 : decode cX1_multiply 261 = .ok (.invokevirtual 113, 3) := by decide +kernel
theorem dX1_multiply_264 : decode cX1_multiply 264 = .ok (.iconst (-1), 1) := by decide +kernel
theorem dX1_multiply_265 : decode cX1_multiply 265 = .ok (.ireturn, 1) := by decide +kernel
theorem dX1_longProduct_0 : decode cX1_longProduct 0 = .ok (.iload_n 2, 1) := by decide +kernel
theorem dX1_longProduct_1 : decode cX1_longProduct 1 = .ok (.ifCond .eq 11, 3) := by decide +kernel
theorem dX1_longProduct_4 : decode cX1_longProduct 4 = .ok (.iload_n 0, 1) := by decide +kernel
theorem dX1_longProduct_5 : decode cX1_longProduct 5 = .ok (.i2l, 1) := by decide +kernel
theorem dX1_longProduct_6 : decode cX1_longProduct 6 = .ok (.iload_n 1, 1) := by decide +kernel
theorem dX1_longProduct_7 : decode cX1_longProduct 7 = .ok (.i2l, 1) := by decide +kernel
theorem dX1_longProduct_8 : decode cX1_longProduct 8 = .ok (.lmul, 1) := by decide +kernel
theorem dX1_longProduct_9 : decode cX1_longProduct 9 = .ok (.goto 16, 3) := by decide +kernel
theorem dX1_longProduct_12 : decode cX1_longProduct 12 = .ok (.iload_n 0, 1) := by decide +kernel
theorem dX1_longProduct_13 : decode cX1_longProduct 13 = .ok (.i2l, 1) := by decide +kernel
theorem dX1_longProduct_14 : decode cX1_longProduct 14 = .ok (.ldc2_w 119, 3) := by decide +kernel
theorem dX1_longProduct_17 : decode cX1_longProduct 17 = .ok (.land, 1) := by decide +kernel
theorem dX1_longProduct_18 : decode cX1_longProduct 18 = .ok (.iload_n 1, 1) := by decide +kernel
theorem dX1_longProduct_19 : decode cX1_longProduct 19 = .ok (.i2l, 1) := by decide +kernel
theorem dX1_longProduct_20 : decode cX1_longProduct 20 = .ok (.ldc2_w 119, 3) := by decide +kernel
theorem dX1_longProduct_23 : decode cX1_longProduct 23 = .ok (.land, 1) := by decide +kernel
theorem dX1_longProduct_24 : decode cX1_longProduct 24 = .ok (.lmul, 1) := by decide +kernel
theorem dX1_longProduct_25 : decode cX1_longProduct 25 = .ok (.lreturn, 1) := by decide +kernel
theorem dX1_pair_0 : decode cX1_pair 0 = .ok (.iload_n 0, 1) := by decide +kernel
theorem dX1_pair_1 : decode cX1_pair 1 = .ok (.i2l, 1) := by decide +kernel
theorem dX1_pair_2 : decode cX1_pair 2 = .ok (.bipush 32, 2) := by decide +kernel
theorem dX1_pair_4 : decode cX1_pair 4 = .ok (.lshl, 1) := by decide +kernel
theorem dX1_pair_5 : decode cX1_pair 5 = .ok (.iload_n 1, 1) := by decide +kernel
theorem dX1_pair_6 : decode cX1_pair 6 = .ok (.i2l, 1) := by decide +kernel
theorem dX1_pair_7 : decode cX1_pair 7 = .ok (.ldc2_w 119, 3) := by decide +kernel
theorem dX1_pair_10 : decode cX1_pair 10 = .ok (.land, 1) := by decide +kernel
theorem dX1_pair_11 : decode cX1_pair 11 = .ok (.lor, 1) := by decide +kernel
theorem dX1_pair_12 : decode cX1_pair 12 = .ok (.lreturn, 1) := by decide +kernel
theorem dX1_swap_0 : decode cX1_swap 0 = .ok (.iload_n 1, 1) := by decide +kernel
theorem dX1_swap_1 : decode cX1_swap 1 = .ok (.bipush 16, 2) := by decide +kernel
theorem dX1_swap_3 : decode cX1_swap 3 = .ok (.invokestatic 43, 3) := by decide +kernel
theorem dX1_swap_6 : decode cX1_swap 6 = .ok (.istore_n 2, 1) := by decide +kernel
theorem dX1_swap_7 : decode cX1_swap 7 = .ok (.iload_n 1, 1) := by decide +kernel
theorem dX1_swap_8 : decode cX1_swap 8 = .ok (.bipush 12, 2) := by decide +kernel
theorem dX1_swap_10 : decode cX1_swap 10 = .ok (.invokestatic 43, 3) := by decide +kernel
theorem dX1_swap_13 : decode cX1_swap 13 = .ok (.istore_n 3, 1) := by decide +kernel
theorem dX1_swap_14 : decode cX1_swap 14 = .ok (.iload_n 1, 1) := by decide +kernel
theorem dX1_swap_15 : decode cX1_swap 15 = .ok (.iconst 0, 1) := by decide +kernel
theorem dX1_swap_16 : decode cX1_swap 16 = .ok (.invokestatic 43, 3) := by decide +kernel
theorem dX1_swap_19 : decode cX1_swap 19 = .ok (.istore 4, 2) := by decide +kernel
theorem dX1_swap_21 : decode cX1_swap 21 = .ok (.iload_n 2, 1) := by decide +kernel
theorem dX1_swap_22 : decode cX1_swap 22 = .ok (.bipush 15, 2) := by decide +kernel
theorem dX1_swap_24 : decode cX1_swap 24 = .ok (.if_icmp .eq 16, 3) := by decide +kernel
theorem dX1_swap_27 : decode cX1_swap 27 = .ok (.iload_n 3, 1) := by decide +kernel
theorem dX1_swap_28 : decode cX1_swap 28 = .ok (.bipush 15, 2) := by decide +kernel
theorem dX1_swap_30 : decode cX1_swap 30 = .ok (.if_icmp .eq 10, 3) := by decide +kernel
theorem dX1_swap_33 : decode cX1_swap 33 = .ok (.iload 4, 2) := by decide +kernel
theorem dX1_swap_35 : decode cX1_swap 35 = .ok (.bipush 15, 2) := by decide +kernel
theorem dX1_swap_37 : decode cX1_swap 37 = .ok (.if_icmp .ne 5, 3) := by decide +kernel
theorem dX1_swap_40 : decode cX1_swap 40 = .ok (.iconst 0, 1) := by decide +kernel
theorem dX1_swap_41 : decode cX1_swap 41 = .ok (.ireturn, 1) := by decide +kernel
theorem dX1_swap_42 : decode cX1_swap 42 = .ok (.aload_n 0, 1) := by decide +kernel
theorem dX1_swap_43 : decode cX1_swap 43 = .ok (.getfield 23, 3) := by decide +kernel
theorem dX1_swap_46 : decode cX1_swap 46 = .ok (.iload_n 1, 1) := by decide +kernel
theorem dX1_swap_47 : decode cX1_swap 47 = .ok (.bipush 22, 2) := by decide +kernel
theorem dX1_swap_49 : decode cX1_swap 49 = .ok (.invokestatic 97, 3) := by decide +kernel
theorem dX1_swap_52 : decode cX1_swap 52 = .ok (.ifCond .eq 7, 3) := by decide +kernel
theorem dX1_swap_55 : decode cX1_swap 55 = .ok (.iconst 1, 1) := by decide +kernel
theorem dX1_swap_56 : decode cX1_swap 56 = .ok (.goto 4, 3) := by decide +kernel
theorem dX1_swap_59 : decode cX1_swap 59 = .ok (.iconst 0, 1) := by decide +kernel
theorem dX1_swap_60 : decode cX1_swap 60 = .ok (.iload_n 2, 1) := by decide +kernel
theorem dX1_swap_61 : decode cX1_swap 61 = .ok (.iload_n 3, 1) := by decide +kernel
theorem dX1_swap_62 : decode cX1_swap 62 = .ok (.iload 4, 2) := by decide +kernel
theorem dX1_swap_64 : decode cX1_swap 64 = .ok (.invokevirtual 123, 3) := by decide +kernel
theorem dX1_swap_67 : decode cX1_swap 67 = .ok (.ireturn, 1) := by decide +kernel
theorem dX1_halves_0 : decode cX1_halves 0 = .ok (.iload_n 1, 1) := by decide +kernel
theorem dX1_halves_1 : decode cX1_halves 1 = .ok (.iconst 5, 1) := by decide +kernel
theorem dX1_halves_2 : decode cX1_halves 2 = .ok (.iushr, 1) := by decide +kernel
theorem dX1_halves_3 : decode cX1_halves 3 = .ok (.iconst 3, 1) := by decide +kernel
theorem dX1_halves_4 : decode cX1_halves 4 = .ok (.iand, 1) := by decide +kernel
theorem dX1_halves_5 : decode cX1_halves 5 = .ok (.istore_n 2, 1) := by decide +kernel
theorem dX1_halves_6 : decode cX1_halves 6 = .ok (.iload_n 2, 1) := by decide +kernel
theorem dX1_halves_7 : decode cX1_halves 7 = .ok (.iconst 1, 1) := by decide +kernel
theorem dX1_halves_8 : decode cX1_halves 8 = .ok (.if_icmp .eq 14, 3) := by decide +kernel
theorem dX1_halves_11 : decode cX1_halves 11 = .ok (.iload_n 1, 1) := by decide +kernel
theorem dX1_halves_12 : decode cX1_halves 12 = .ok (.bipush 20, 2) := by decide +kernel
theorem dX1_halves_14 : decode cX1_halves 14 = .ok (.invokestatic 97, 3) := by decide +kernel
theorem dX1_halves_17 : decode cX1_halves 17 = .ok (.ifCond .ne 5, 3) := by decide +kernel
theorem dX1_halves_20 : decode cX1_halves 20 = .ok (.iconst 0, 1) := by decide +kernel
theorem dX1_halves_21 : decode cX1_halves 21 = .ok (.ireturn, 1) := by decide +kernel
theorem dX1_halves_22 : decode cX1_halves 22 = .ok (.iload_n 2, 1) := by decide +kernel
theorem dX1_halves_23 : decode cX1_halves 23 = .ok (.iconst 1, 1) := by decide +kernel
theorem dX1_halves_24 : decode cX1_halves 24 = .ok (.if_icmp .ne 7, 3) := by decide +kernel
theorem dX1_halves_27 : decode cX1_halves 27 = .ok (.iconst 2, 1) := by decide +kernel
theorem dX1_halves_28 : decode cX1_halves 28 = .ok (.goto 13, 3) := by decide +kernel
theorem dX1_halves_31 : decode cX1_halves 31 = .ok (.iload_n 2, 1) := by decide +kernel
theorem dX1_halves_32 : decode cX1_halves 32 = .ok (.iconst 2, 1) := by decide +kernel
theorem dX1_halves_33 : decode cX1_halves 33 = .ok (.if_icmp .ne 7, 3) := by decide +kernel
theorem dX1_halves_36 : decode cX1_halves 36 = .ok (.iconst 3, 1) := by decide +kernel
theorem dX1_halves_37 : decode cX1_halves 37 = .ok (.goto 4, 3) := by decide +kernel
theorem dX1_halves_40 : decode cX1_halves 40 = .ok (.iconst 4, 1) := by decide +kernel
theorem dX1_halves_41 : decode cX1_halves 41 = .ok (.istore_n 3, 1) := by decide +kernel
theorem dX1_halves_42 : decode cX1_halves 42 = .ok (.iload_n 1, 1) := by decide +kernel
theorem dX1_halves_43 : decode cX1_halves 43 = .ok (.iconst 0, 1) := by decide +kernel
theorem dX1_halves_44 : decode cX1_halves 44 = .ok (.invokestatic 43, 3) := by decide +kernel
theorem dX1_halves_47 : decode cX1_halves 47 = .ok (.istore 4, 2) := by decide +kernel
theorem dX1_halves_49 : decode cX1_halves 49 = .ok (.bipush 16, 2) := by decide +kernel
theorem dX1_halves_51 : decode cX1_halves 51 = .ok (.iload_n 1, 1) := by decide +kernel
theorem dX1_halves_52 : decode cX1_halves 52 = .ok (.bipush 8, 2) := by decide +kernel
theorem dX1_halves_54 : decode cX1_halves 54 = .ok (.invokestatic 43, 3) := by decide +kernel
theorem dX1_halves_57 : decode cX1_halves 57 = .ok (.imul, 1) := by decide +kernel
theorem dX1_halves_58 : decode cX1_halves 58 = .ok (.iload 4, 2) := by decide +kernel
theorem dX1_halves_60 : decode cX1_halves 60 = .ok (.iadd, 1) := by decide +kernel
theorem dX1_halves_61 : decode cX1_halves 61 = .ok (.istore 5, 2) := by decide +kernel
theorem dX1_halves_63 : decode cX1_halves 63 = .ok (.iload_n 1, 1) := by decide +kernel
theorem dX1_halves_64 : decode cX1_halves 64 = .ok (.bipush 22, 2) := by decide +kernel
theorem dX1_halves_66 : decode cX1_halves 66 = .ok (.invokestatic 97, 3) := by decide +kernel
theorem dX1_halves_69 : decode cX1_halves 69 = .ok (.ifCond .eq 8, 3) := by decide +kernel
theorem dX1_halves_72 : decode cX1_halves 72 = .ok (.iload 5, 2) := by decide +kernel
theorem dX1_halves_74 : decode cX1_halves 74 = .ok (.goto 12, 3) := by decide +kernel
theorem dX1_halves_77 : decode cX1_halves 77 = .ok (.aload_n 0, 1) := by decide +kernel
theorem dX1_halves_78 : decode cX1_halves 78 = .ok (.getfield 9, 3) := by decide +kernel
theorem dX1_halves_81 : decode cX1_halves 81 = .ok (.iload 4, 2) := by decide +kernel
theorem dX1_halves_83 : decode cX1_halves 83 = .ok (.invokevirtual 46, 3) := by decide +kernel
theorem dX1_halves_86 : decode cX1_halves 86 = .ok (.istore 6, 2) := by decide +kernel
theorem dX1_halves_88 : decode cX1_halves 88 = .ok (.aload_n 0, 1) := by decide +kernel
theorem dX1_halves_89 : decode cX1_halves 89 = .ok (.getfield 23, 3) := by decide +kernel
theorem dX1_halves_92 : decode cX1_halves 92 = .ok (.iload_n 1, 1) := by decide +kernel
theorem dX1_halves_93 : decode cX1_halves 93 = .ok (.iload_n 3, 1) := by decide +kernel
theorem dX1_halves_94 : decode cX1_halves 94 = .ok (.iload 6, 2) := by decide +kernel
theorem dX1_halves_96 : decode cX1_halves 96 = .ok (.invokevirtual 126, 3) := by decide +kernel
theorem dX1_halves_99 : decode cX1_halves 99 = .ok (.ireturn, 1) := by decide +kernel
theorem dX1_readStatus_0 : decode cX1_readStatus 0 = .ok (.iload_n 1, 1) := by decide +kernel
theorem dX1_readStatus_1 : decode cX1_readStatus 1 = .ok (.bipush 22, 2) := by decide +kernel
theorem dX1_readStatus_3 : decode cX1_readStatus 3 = .ok (.invokestatic 97, 3) := by decide +kernel
theorem dX1_readStatus_6 : decode cX1_readStatus 6 = .ok (.ifCond .eq 13, 3) := by decide +kernel
theorem dX1_readStatus_9 : decode cX1_readStatus 9 = .ok (.aload_n 0, 1) := by decide +kernel
theorem dX1_readStatus_10 : decode cX1_readStatus 10 = .ok (.getfield 9, 3) := by decide +kernel
theorem dX1_readStatus_13 : decode cX1_readStatus 13 = .ok (.invokevirtual 130, 3) := by decide +kernel
theorem dX1_readStatus_16 : decode cX1_readStatus 16 = .ok (.goto 10, 3) := by decide +kernel
theorem dX1_readStatus_19 : decode cX1_readStatus 19 = .ok (.aload_n 0, 1) := by decide +kernel
theorem dX1_readStatus_20 : decode cX1_readStatus 20 = .ok (.getfield 9, 3) := by decide +kernel
theorem dX1_readStatus_23 : decode cX1_readStatus 23 = .ok (.invokevirtual 134, 3) := by decide +kernel
theorem dX1_readStatus_26 : decode cX1_readStatus 26 = .ok (.istore_n 2, 1) := by decide +kernel
theorem dX1_readStatus_27 : decode cX1_readStatus 27 = .ok (.aload_n 0, 1) := by decide +kernel
theorem dX1_readStatus_28 : decode cX1_readStatus 28 = .ok (.getfield 9, 3) := by decide +kernel
theorem dX1_readStatus_31 : decode cX1_readStatus 31 = .ok (.iload_n 1, 1) := by decide +kernel
theorem dX1_readStatus_32 : decode cX1_readStatus 32 = .ok (.bipush 12, 2) := by decide +kernel
theorem dX1_readStatus_34 : decode cX1_readStatus 34 = .ok (.invokestatic 43, 3) := by decide +kernel
theorem dX1_readStatus_37 : decode cX1_readStatus 37 = .ok (.iload_n 2, 1) := by decide +kernel
theorem dX1_readStatus_38 : decode cX1_readStatus 38 = .ok (.invokevirtual 109, 3) := by decide +kernel
theorem dX1_readStatus_41 : decode cX1_readStatus 41 = .ok (.iconst (-1), 1) := by decide +kernel
theorem dX1_readStatus_42 : decode cX1_readStatus 42 = .ok (.ireturn, 1) := by decide +kernel
theorem dX1_writeStatus_0 : decode cX1_writeStatus 0 = .ok (.iload_n 1, 1) := by decide +kernel
theorem dX1_writeStatus_1 : decode cX1_writeStatus 1 = .ok (.bipush 19, 2) := by decide +kernel
theorem dX1_writeStatus_3 : decode cX1_writeStatus 3 = .ok (.invokestatic 97, 3) := by decide +kernel
theorem dX1_writeStatus_6 : decode cX1_writeStatus 6 = .ok (.ifCond .eq 8, 3) := by decide +kernel
theorem dX1_writeStatus_9 : decode cX1_writeStatus 9 = .ok (.ldc 137, 2) := by decide +kernel
theorem dX1_writeStatus_11 : decode cX1_writeStatus 11 = .ok (.goto 4, 3) := by decide +kernel
theorem dX1_writeStatus_14 : decode cX1_writeStatus 14 = .ok (.iconst 0, 1) := by decide +kernel
theorem dX1_writeStatus_15 : decode cX1_writeStatus 15 = .ok (.istore_n 3, 1) := by decide +kernel
theorem dX1_writeStatus_16 : decode cX1_writeStatus 16 = .ok (.iload_n 1, 1) := by decide +kernel
theorem dX1_writeStatus_17 : decode cX1_writeStatus 17 = .ok (.bipush 16, 2) := by decide +kernel
theorem dX1_writeStatus_19 : decode cX1_writeStatus 19 = .ok (.invokestatic 97, 3) := by decide +kernel
theorem dX1_writeStatus_22 : decode cX1_writeStatus 22 = .ok (.ifCond .eq 9, 3) := by decide +kernel
theorem dX1_writeStatus_25 : decode cX1_writeStatus 25 = .ok (.iload_n 3, 1) := by decide +kernel
theorem dX1_writeStatus_26 : decode cX1_writeStatus 26 = .ok (.sipush 255, 3) := by decide +kernel
theorem dX1_writeStatus_29 : decode cX1_writeStatus 29 = .ok (.ior, 1) := by decide +kernel
theorem dX1_writeStatus_30 : decode cX1_writeStatus 30 = .ok (.istore_n 3, 1) := by decide +kernel
theorem dX1_writeStatus_31 : decode cX1_writeStatus 31 = .ok (.iload_n 1, 1) := by decide +kernel
theorem dX1_writeStatus_32 : decode cX1_writeStatus 32 = .ok (.bipush 22, 2) := by decide +kernel
theorem dX1_writeStatus_34 : decode cX1_writeStatus 34 = .ok (.invokestatic 97, 3) := by decide +kernel
theorem dX1_writeStatus_37 : decode cX1_writeStatus 37 = .ok (.ifCond .eq 15, 3) := by decide +kernel
theorem dX1_writeStatus_40 : decode cX1_writeStatus 40 = .ok (.aload_n 0, 1) := by decide +kernel
theorem dX1_writeStatus_41 : decode cX1_writeStatus 41 = .ok (.getfield 9, 3) := by decide +kernel
theorem dX1_writeStatus_44 : decode cX1_writeStatus 44 = .ok (.iload_n 2, 1) := by decide +kernel
theorem dX1_writeStatus_45 : decode cX1_writeStatus 45 = .ok (.iload_n 3, 1) := by decide +kernel
theorem dX1_writeStatus_46 : decode cX1_writeStatus 46 = .ok (.invokevirtual 138, 3) := by decide +kernel
theorem dX1_writeStatus_49 : decode cX1_writeStatus 49 = .ok (.goto 12, 3) := by decide +kernel
theorem dX1_writeStatus_52 : decode cX1_writeStatus 52 = .ok (.aload_n 0, 1) := by decide +kernel
theorem dX1_writeStatus_53 : decode cX1_writeStatus 53 = .ok (.getfield 9, 3) := by decide +kernel
theorem dX1_writeStatus_56 : decode cX1_writeStatus 56 = .ok (.iload_n 2, 1) := by decide +kernel
theorem dX1_writeStatus_57 : decode cX1_writeStatus 57 = .ok (.iload_n 3, 1) := by decide +kernel
theorem dX1_writeStatus_58 : decode cX1_writeStatus 58 = .ok (.invokevirtual 141, 3) := by decide +kernel
theorem dX1_writeStatus_61 : decode cX1_writeStatus 61 = .ok (.iconst (-1), 1) := by decide +kernel
theorem dX1_writeStatus_62 : decode cX1_writeStatus 62 = .ok (.ireturn, 1) := by decide +kernel
theorem dX1_data_0 : decode cX1_data 0 = .ok (.iload_n 1, 1) := by decide +kernel
theorem dX1_data_1 : decode cX1_data 1 = .ok (.bipush 21, 2) := by decide +kernel
theorem dX1_data_3 : decode cX1_data 3 = .ok (.invokestatic 43, 3) := by decide +kernel
theorem dX1_data_6 : decode cX1_data 6 = .ok (.istore_n 2, 1) := by decide +kernel
theorem dX1_data_7 : decode cX1_data 7 = .ok (.iload_n 2, 1) := by decide +kernel
theorem dX1_data_8 : decode cX1_data 8 = .ok (.invokestatic 144, 3) := by decide +kernel
theorem dX1_data_11 : decode cX1_data 11 = .ok (.istore_n 3, 1) := by decide +kernel
theorem dX1_data_12 : decode cX1_data 12 = .ok (.iload_n 1, 1) := by decide +kernel
theorem dX1_data_13 : decode cX1_data 13 = .ok (.bipush 20, 2) := by decide +kernel
theorem dX1_data_15 : decode cX1_data 15 = .ok (.invokestatic 97, 3) := by decide +kernel
theorem dX1_data_18 : decode cX1_data 18 = .ok (.istore 4, 2) := by decide +kernel
theorem dX1_data_20 : decode cX1_data 20 = .ok (.iload_n 1, 1) := by decide +kernel
theorem dX1_data_21 : decode cX1_data 21 = .ok (.ldc 147, 2) := by decide +kernel
theorem dX1_data_23 : decode cX1_data 23 = .ok (.iand, 1) := by decide +kernel
theorem dX1_data_24 : decode cX1_data 24 = .ok (.bipush 16, 2) := by decide +kernel
theorem dX1_data_26 : decode cX1_data 26 = .ok (.if_icmp .ne 7, 3) := by decide +kernel
theorem dX1_data_29 : decode cX1_data 29 = .ok (.iconst 1, 1) := by decide +kernel
theorem dX1_data_30 : decode cX1_data 30 = .ok (.goto 4, 3) := by decide +kernel
theorem dX1_data_33 : decode cX1_data 33 = .ok (.iconst 0, 1) := by decide +kernel
theorem dX1_data_34 : decode cX1_data 34 = .ok (.istore 5, 2) := by decide +kernel
theorem dX1_data_36 : decode cX1_data 36 = .ok (.iload_n 3, 1) := by decide +kernel
theorem dX1_data_37 : decode cX1_data 37 = .ok (.ifCond .eq 8, 3) := by decide +kernel
theorem dX1_data_40 : decode cX1_data 40 = .ok (.iload 4, 2) := by decide +kernel
theorem dX1_data_42 : decode cX1_data 42 = .ok (.ifCond .eq 17, 3) := by decide +kernel
theorem dX1_data_45 : decode cX1_data 45 = .ok (.iload 5, 2) := by decide +kernel
theorem dX1_data_47 : decode cX1_data 47 = .ok (.ifCond .eq 14, 3) := by decide +kernel
theorem dX1_data_50 : decode cX1_data 50 = .ok (.iload_n 1, 1) := by decide +kernel
theorem dX1_data_51 : decode cX1_data 51 = .ok (.bipush 7, 2) := by decide +kernel
theorem dX1_data_53 : decode cX1_data 53 = .ok (.invokestatic 97, 3) := by decide +kernel
theorem dX1_data_56 : decode cX1_data 56 = .ok (.ifCond .eq 5, 3) := by decide +kernel
theorem dX1_data_59 : decode cX1_data 59 = .ok (.iconst 0, 1) := by decide +kernel
theorem dX1_data_60 : decode cX1_data 60 = .ok (.ireturn, 1) := by decide +kernel
theorem dX1_data_61 : decode cX1_data 61 = .ok (.iload_n 1, 1) := by decide +kernel
theorem dX1_data_62 : decode cX1_data 62 = .ok (.bipush 16, 2) := by decide +kernel
theorem dX1_data_64 : decode cX1_data 64 = .ok (.invokestatic 43, 3) := by decide +kernel
theorem dX1_data_67 : decode cX1_data 67 = .ok (.istore 6, 2) := by decide +kernel
theorem dX1_data_69 : decode cX1_data 69 = .ok (.iload_n 1, 1) := by decide +kernel
theorem dX1_data_70 : decode cX1_data 70 = .ok (.bipush 25, 2) := by decide +kernel
theorem dX1_data_72 : decode cX1_data 72 = .ok (.invokestatic 97, 3) := by decide +kernel
theorem dX1_data_75 : decode cX1_data 75 = .ok (.ifCond .eq 23, 3) := by decide +kernel
theorem dX1_data_78 : decode cX1_data 78 = .ok (.aload_n 0, 1) := by decide +kernel
theorem dX1_data_79 : decode cX1_data 79 = .ok (.getfield 15, 3) := by decide +kernel
theorem dX1_data_82 : decode cX1_data 82 = .ok (.iload_n 1, 1) := by decide +kernel
theorem dX1_data_83 : decode cX1_data 83 = .ok (.aload_n 0, 1) := by decide +kernel
theorem dX1_data_84 : decode cX1_data 84 = .ok (.getfield 9, 3) := by decide +kernel
theorem dX1_data_87 : decode cX1_data 87 = .ok (.invokevirtual 148, 3) := by decide +kernel
theorem dX1_data_90 : decode cX1_data 90 = .ok (.invokevirtual 81, 3) := by decide +kernel
theorem dX1_data_93 : decode cX1_data 93 = .ok (.istore 7, 2) := by decide +kernel
theorem dX1_data_95 : decode cX1_data 95 = .ok (.goto 23, 3) := by decide +kernel
theorem dX1_data_98 : decode cX1_data 98 = .ok (.iload 5, 2) := by decide +kernel
theorem dX1_data_100 : decode cX1_data 100 = .ok (.ifCond .eq 11, 3) := by decide +kernel
theorem dX1_data_103 : decode cX1_data 103 = .ok (.aload_n 0, 1) := by decide +kernel
theorem dX1_data_104 : decode cX1_data 104 = .ok (.iload_n 1, 1) := by decide +kernel
theorem dX1_data_105 : decode cX1_data 105 = .ok (.invokevirtual 151, 3) := by decide +kernel
theorem dX1_data_108 : decode cX1_data 108 = .ok (.goto 8, 3) := by decide +kernel
theorem dX1_data_111 : decode cX1_data 111 = .ok (.aload_n 0, 1) := by decide +kernel
theorem dX1_data_112 : decode cX1_data 112 = .ok (.iload_n 1, 1) := by decide +kernel
theorem dX1_data_113 : decode cX1_data 113 = .ok (.invokevirtual 154, 3) := by decide +kernel
theorem dX1_data_116 : decode cX1_data 116 = .ok (.istore 7, 2) := by decide +kernel
theorem dX1_data_118 : decode cX1_data 118 = .ok (.iload 5, 2) := by decide +kernel
theorem dX1_data_120 : decode cX1_data 120 = .ok (.ifCond .eq 15, 3) := by decide +kernel
theorem dX1_data_123 : decode cX1_data 123 = .ok (.aload_n 0, 1) := by decide +kernel
theorem dX1_data_124 : decode cX1_data 124 = .ok (.getfield 9, 3) := by decide +kernel
theorem dX1_data_127 : decode cX1_data 127 = .ok (.iload 6, 2) := by decide +kernel
theorem dX1_data_129 : decode cX1_data 129 = .ok (.invokevirtual 157, 3) := by decide +kernel
theorem dX1_data_132 : decode cX1_data 132 = .ok (.goto 12, 3) := by decide +kernel
theorem dX1_data_135 : decode cX1_data 135 = .ok (.aload_n 0, 1) := by decide +kernel
theorem dX1_data_136 : decode cX1_data 136 = .ok (.getfield 9, 3) := by decide +kernel
theorem dX1_data_139 : decode cX1_data 139 = .ok (.iload 6, 2) := by decide +kernel
theorem dX1_data_141 : decode cX1_data 141 = .ok (.invokevirtual 46, 3) := by decide +kernel
theorem dX1_data_144 : decode cX1_data 144 = .ok (.istore 8, 2) := by decide +kernel
theorem dX1_data_146 : decode cX1_data 146 = .ok (.aload_n 0, 1) := by decide +kernel
theorem dX1_data_147 : decode cX1_data 147 = .ok (.getfield 19, 3) := by decide +kernel
theorem dX1_data_150 : decode cX1_data 150 = .ok (.iload_n 2, 1) := by decide +kernel
theorem dX1_data_151 : decode cX1_data 151 = .ok (.iload 8, 2) := by decide +kernel
theorem dX1_data_153 : decode cX1_data 153 = .ok (.iload 7, 2) := by decide +kernel
theorem dX1_data_155 : decode cX1_data 155 = .ok (.aload_n 0, 1) := by decide +kernel
theorem dX1_data_156 : decode cX1_data 156 = .ok (.getfield 15, 3) := by decide +kernel
theorem dX1_data_159 : decode cX1_data 159 = .ok (.invokevirtual 160, 3) := by decide +kernel
theorem dX1_data_162 : decode cX1_data 162 = .ok (.invokevirtual 161, 3) := by decide +kernel
theorem dX1_data_165 : decode cX1_data 165 = .ok (.istore 9, 2) := by decide +kernel
theorem dX1_data_167 : decode cX1_data 167 = .ok (.iload_n 1, 1) := by decide +kernel
theorem dX1_data_168 : decode cX1_data 168 = .ok (.bipush 12, 2) := by decide +kernel
theorem dX1_data_170 : decode cX1_data 170 = .ok (.invokestatic 43, 3) := by decide +kernel
theorem dX1_data_173 : decode cX1_data 173 = .ok (.istore 10, 2) := by decide +kernel
theorem dX1_data_175 : decode cX1_data 175 = .ok (.iload 4, 2) := by decide +kernel
theorem dX1_data_177 : decode cX1_data 177 = .ok (.ifCond .eq 45, 3) := by decide +kernel
theorem dX1_data_180 : decode cX1_data 180 = .ok (.iload_n 3, 1) := by decide +kernel
theorem dX1_data_181 : decode cX1_data 181 = .ok (.ifCond .ne 10, 3) := by decide +kernel
theorem dX1_data_184 : decode cX1_data 184 = .ok (.iload 10, 2) := by decide +kernel
theorem dX1_data_186 : decode cX1_data 186 = .ok (.bipush 15, 2) := by decide +kernel
theorem dX1_data_188 : decode cX1_data 188 = .ok (.if_icmp .eq 20, 3) := by decide +kernel
theorem dX1_data_191 : decode cX1_data 191 = .ok (.aload_n 0, 1) := by decide +kernel
theorem dX1_data_192 : decode cX1_data 192 = .ok (.getfield 9, 3) := by decide +kernel
theorem dX1_data_195 : decode cX1_data 195 = .ok (.aload_n 0, 1) := by decide +kernel
theorem dX1_data_196 : decode cX1_data 196 = .ok (.getfield 19, 3) := by decide +kernel
theorem dX1_data_199 : decode cX1_data 199 = .ok (.invokevirtual 164, 3) := by decide +kernel
theorem dX1_data_202 : decode cX1_data 202 = .ok (.invokevirtual 167, 3) := by decide +kernel
theorem dX1_data_205 : decode cX1_data 205 = .ok (.goto 17, 3) := by decide +kernel
theorem dX1_data_208 : decode cX1_data 208 = .ok (.aload_n 0, 1) := by decide +kernel
theorem dX1_data_209 : decode cX1_data 209 = .ok (.getfield 9, 3) := by decide +kernel
theorem dX1_data_212 : decode cX1_data 212 = .ok (.aload_n 0, 1) := by decide +kernel
theorem dX1_data_213 : decode cX1_data 213 = .ok (.getfield 9, 3) := by decide +kernel
theorem dX1_data_216 : decode cX1_data 216 = .ok (.invokevirtual 130, 3) := by decide +kernel
theorem dX1_data_219 : decode cX1_data 219 = .ok (.invokevirtual 170, 3) := by decide +kernel
theorem dX1_data_222 : decode cX1_data 222 = .ok (.iload_n 3, 1) := by decide +kernel
theorem dX1_data_223 : decode cX1_data 223 = .ok (.ifCond .ne 14, 3) := by decide +kernel
theorem dX1_data_226 : decode cX1_data 226 = .ok (.aload_n 0, 1) := by decide +kernel
theorem dX1_data_227 : decode cX1_data 227 = .ok (.getfield 9, 3) := by decide +kernel
theorem dX1_data_230 : decode cX1_data 230 = .ok (.iload 10, 2) := by decide +kernel
theorem dX1_data_232 : decode cX1_data 232 = .ok (.iload 9, 2) := by decide +kernel
theorem dX1_data_234 : decode cX1_data 234 = .ok (.invokevirtual 109, 3) := by decide +kernel
theorem dX1_data_237 : decode cX1_data 237 = .ok (.iconst (-1), 1) := by decide +kernel
theorem dX1_data_238 : decode cX1_data 238 = .ok (.ireturn, 1) := by decide +kernel
theorem dX1_shiftedByRegister_0 : decode cX1_shiftedByRegister 0 = .ok (.aload_n 0, 1) := by decide +kernel
theorem dX1_shiftedByRegister_1 : decode cX1_shiftedByRegister 1 = .ok (.getfield 9, 3) := by decide +kernel
theorem dX1_shiftedByRegister_4 : decode cX1_shiftedByRegister 4 = .ok (.iload_n 1, 1) := by decide +kernel
theorem dX1_shiftedByRegister_5 : decode cX1_shiftedByRegister 5 = .ok (.iconst 0, 1) := by decide +kernel
theorem dX1_shiftedByRegister_6 : decode cX1_shiftedByRegister 6 = .ok (.invokestatic 43, 3) := by decide +kernel
theorem dX1_shiftedByRegister_9 : decode cX1_shiftedByRegister 9 = .ok (.invokevirtual 157, 3) := by decide +kernel
theorem dX1_shiftedByRegister_12 : decode cX1_shiftedByRegister 12 = .ok (.istore_n 2, 1) := by decide +kernel
theorem dX1_shiftedByRegister_13 : decode cX1_shiftedByRegister 13 = .ok (.aload_n 0, 1) := by decide +kernel
theorem dX1_shiftedByRegister_14 : decode cX1_shiftedByRegister 14 = .ok (.getfield 9, 3) := by decide +kernel
theorem dX1_shiftedByRegister_17 : decode cX1_shiftedByRegister 17 = .ok (.iload_n 1, 1) := by decide +kernel
theorem dX1_shiftedByRegister_18 : decode cX1_shiftedByRegister 18 = .ok (.bipush 8, 2) := by decide +kernel
theorem dX1_shiftedByRegister_20 : decode cX1_shiftedByRegister 20 = .ok (.invokestatic 43, 3) := by decide +kernel
theorem dX1_shiftedByRegister_23 : decode cX1_shiftedByRegister 23 = .ok (.invokevirtual 157, 3) := by decide +kernel
theorem dX1_shiftedByRegister_26 : decode cX1_shiftedByRegister 26 = .ok (.sipush 255, 3) := by decide +kernel
theorem dX1_shiftedByRegister_29 : decode cX1_shiftedByRegister 29 = .ok (.iand, 1) := by decide +kernel
theorem dX1_shiftedByRegister_30 : decode cX1_shiftedByRegister 30 = .ok (.istore_n 3, 1) := by decide +kernel
theorem dX1_shiftedByRegister_31 : decode cX1_shiftedByRegister 31 = .ok (.aload_n 0, 1) := by decide +kernel
theorem dX1_shiftedByRegister_32 : decode cX1_shiftedByRegister 32 = .ok (.getfield 15, 3) := by decide +kernel
theorem dX1_shiftedByRegister_35 : decode cX1_shiftedByRegister 35 = .ok (.iload_n 1, 1) := by decide +kernel
theorem dX1_shiftedByRegister_36 : decode cX1_shiftedByRegister 36 = .ok (.iconst 5, 1) := by decide +kernel
theorem dX1_shiftedByRegister_37 : decode cX1_shiftedByRegister 37 = .ok (.iushr, 1) := by decide +kernel
theorem dX1_shiftedByRegister_38 : decode cX1_shiftedByRegister 38 = .ok (.iconst 3, 1) := by decide +kernel
theorem dX1_shiftedByRegister_39 : decode cX1_shiftedByRegister 39 = .ok (.iand, 1) := by decide +kernel
theorem dX1_shiftedByRegister_40 : decode cX1_shiftedByRegister 40 = .ok (.iload_n 2, 1) := by decide +kernel
theorem dX1_shiftedByRegister_41 : decode cX1_shiftedByRegister 41 = .ok (.iload_n 3, 1) := by decide +kernel
theorem dX1_shiftedByRegister_42 : decode cX1_shiftedByRegister 42 = .ok (.aload_n 0, 1) := by decide +kernel
theorem dX1_shiftedByRegister_43 : decode cX1_shiftedByRegister 43 = .ok (.getfield 9, 3) := by decide +kernel
theorem dX1_shiftedByRegister_46 : decode cX1_shiftedByRegister 46 = .ok (.invokevirtual 148, 3) := by decide +kernel
theorem dX1_shiftedByRegister_49 : decode cX1_shiftedByRegister 49 = .ok (.invokevirtual 173, 3) := by decide +kernel
theorem dX1_shiftedByRegister_52 : decode cX1_shiftedByRegister 52 = .ok (.ireturn, 1) := by decide +kernel
theorem dX1_shiftedByNumber_0 : decode cX1_shiftedByNumber 0 = .ok (.aload_n 0, 1) := by decide +kernel
theorem dX1_shiftedByNumber_1 : decode cX1_shiftedByNumber 1 = .ok (.getfield 9, 3) := by decide +kernel
theorem dX1_shiftedByNumber_4 : decode cX1_shiftedByNumber 4 = .ok (.iload_n 1, 1) := by decide +kernel
theorem dX1_shiftedByNumber_5 : decode cX1_shiftedByNumber 5 = .ok (.iconst 0, 1) := by decide +kernel
theorem dX1_shiftedByNumber_6 : decode cX1_shiftedByNumber 6 = .ok (.invokestatic 43, 3) := by decide +kernel
theorem dX1_shiftedByNumber_9 : decode cX1_shiftedByNumber 9 = .ok (.invokevirtual 46, 3) := by decide +kernel
theorem dX1_shiftedByNumber_12 : decode cX1_shiftedByNumber 12 = .ok (.istore_n 2, 1) := by decide +kernel
theorem dX1_shiftedByNumber_13 : decode cX1_shiftedByNumber 13 = .ok (.iload_n 1, 1) := by decide +kernel
theorem dX1_shiftedByNumber_14 : decode cX1_shiftedByNumber 14 = .ok (.bipush 7, 2) := by decide +kernel
theorem dX1_shiftedByNumber_16 : decode cX1_shiftedByNumber 16 = .ok (.invokestatic 176, 3) := by decide +kernel
theorem dX1_shiftedByNumber_19 : decode cX1_shiftedByNumber 19 = .ok (.istore_n 3, 1) := by decide +kernel
theorem dX1_shiftedByNumber_20 : decode cX1_shiftedByNumber 20 = .ok (.aload_n 0, 1) := by decide +kernel
theorem dX1_shiftedByNumber_21 : decode cX1_shiftedByNumber 21 = .ok (.getfield 15, 3) := by decide +kernel
theorem dX1_shiftedByNumber_24 : decode cX1_shiftedByNumber 24 = .ok (.iload_n 1, 1) := by decide +kernel
theorem dX1_shiftedByNumber_25 : decode cX1_shiftedByNumber 25 = .ok (.iconst 5, 1) := by decide +kernel
theorem dX1_shiftedByNumber_26 : decode cX1_shiftedByNumber 26 = .ok (.iushr, 1) := by decide +kernel
theorem dX1_shiftedByNumber_27 : decode cX1_shiftedByNumber 27 = .ok (.iconst 3, 1) := by decide +kernel
theorem dX1_shiftedByNumber_28 : decode cX1_shiftedByNumber 28 = .ok (.iand, 1) := by decide +kernel
theorem dX1_shiftedByNumber_29 : decode cX1_shiftedByNumber 29 = .ok (.iload_n 2, 1) := by decide +kernel
theorem dX1_shiftedByNumber_30 : decode cX1_shiftedByNumber 30 = .ok (.iload_n 3, 1) := by decide +kernel
theorem dX1_shiftedByNumber_31 : decode cX1_shiftedByNumber 31 = .ok (.aload_n 0, 1) := by decide +kernel
theorem dX1_shiftedByNumber_32 : decode cX1_shiftedByNumber 32 = .ok (.getfield 9, 3) := by decide +kernel
theorem dX1_shiftedByNumber_35 : decode cX1_shiftedByNumber 35 = .ok (.invokevirtual 148, 3) := by decide +kernel
theorem dX1_shiftedByNumber_38 : decode cX1_shiftedByNumber 38 = .ok (.invokevirtual 179, 3) := by decide +kernel
theorem dX1_shiftedByNumber_41 : decode cX1_shiftedByNumber 41 = .ok (.ireturn, 1) := by decide +kernel
theorem dX1_transfer_0 : decode cX1_transfer 0 = .ok (.iload_n 1, 1) := by decide +kernel
theorem dX1_transfer_1 : decode cX1_transfer 1 = .ok (.bipush 25, 2) := by decide +kernel
theorem dX1_transfer_3 : decode cX1_transfer 3 = .ok (.invokestatic 97, 3) := by decide +kernel
theorem dX1_transfer_6 : decode cX1_transfer 6 = .ok (.istore_n 2, 1) := by decide +kernel
theorem dX1_transfer_7 : decode cX1_transfer 7 = .ok (.iload_n 2, 1) := by decide +kernel
theorem dX1_transfer_8 : decode cX1_transfer 8 = .ok (.ifCond .eq 13, 3) := by decide +kernel
theorem dX1_transfer_11 : decode cX1_transfer 11 = .ok (.iload_n 1, 1) := by decide +kernel
theorem dX1_transfer_12 : decode cX1_transfer 12 = .ok (.iconst 4, 1) := by decide +kernel
theorem dX1_transfer_13 : decode cX1_transfer 13 = .ok (.invokestatic 97, 3) := by decide +kernel
theorem dX1_transfer_16 : decode cX1_transfer 16 = .ok (.ifCond .eq 5, 3) := by decide +kernel
theorem dX1_transfer_19 : decode cX1_transfer 19 = .ok (.iconst 0, 1) := by decide +kernel
theorem dX1_transfer_20 : decode cX1_transfer 20 = .ok (.ireturn, 1) := by decide +kernel
theorem dX1_transfer_21 : decode cX1_transfer 21 = .ok (.iload_n 2, 1) := by decide +kernel
theorem dX1_transfer_22 : decode cX1_transfer 22 = .ok (.ifCond .eq 11, 3) := by decide +kernel
theorem dX1_transfer_25 : decode cX1_transfer 25 = .ok (.aload_n 0, 1) := by decide +kernel
theorem dX1_transfer_26 : decode cX1_transfer 26 = .ok (.iload_n 1, 1) := by decide +kernel
theorem dX1_transfer_27 : decode cX1_transfer 27 = .ok (.invokevirtual 154, 3) := by decide +kernel
theorem dX1_transfer_30 : decode cX1_transfer 30 = .ok (.goto 8, 3) := by decide +kernel
theorem dX1_transfer_33 : decode cX1_transfer 33 = .ok (.iload_n 1, 1) := by decide +kernel
theorem dX1_transfer_34 : decode cX1_transfer 34 = .ok (.sipush 4095, 3) := by decide +kernel
theorem dX1_transfer_37 : decode cX1_transfer 37 = .ok (.iand, 1) := by decide +kernel
theorem dX1_transfer_38 : decode cX1_transfer 38 = .ok (.istore_n 3, 1) := by decide +kernel
theorem dX1_transfer_39 : decode cX1_transfer 39 = .ok (.iload_n 1, 1) := by decide +kernel
theorem dX1_transfer_40 : decode cX1_transfer 40 = .ok (.bipush 22, 2) := by decide +kernel
theorem dX1_transfer_42 : decode cX1_transfer 42 = .ok (.invokestatic 97, 3) := by decide +kernel
theorem dX1_transfer_45 : decode cX1_transfer 45 = .ok (.ifCond .eq 7, 3) := by decide +kernel
theorem dX1_transfer_48 : decode cX1_transfer 48 = .ok (.iconst 1, 1) := by decide +kernel
theorem dX1_transfer_49 : decode cX1_transfer 49 = .ok (.goto 4, 3) := by decide +kernel
theorem dX1_transfer_52 : decode cX1_transfer 52 = .ok (.iconst 0, 1) := by decide +kernel
theorem dX1_transfer_53 : decode cX1_transfer 53 = .ok (.istore 4, 2) := by decide +kernel
theorem dX1_transfer_55 : decode cX1_transfer 55 = .ok (.aload_n 0, 1) := by decide +kernel
theorem dX1_transfer_56 : decode cX1_transfer 56 = .ok (.getfield 23, 3) := by decide +kernel
theorem dX1_transfer_59 : decode cX1_transfer 59 = .ok (.iload_n 1, 1) := by decide +kernel
theorem dX1_transfer_60 : decode cX1_transfer 60 = .ok (.iload 4, 2) := by decide +kernel
theorem dX1_transfer_62 : decode cX1_transfer 62 = .ok (.iload_n 3, 1) := by decide +kernel
theorem dX1_transfer_63 : decode cX1_transfer 63 = .ok (.invokevirtual 126, 3) := by decide +kernel
theorem dX1_transfer_66 : decode cX1_transfer 66 = .ok (.ireturn, 1) := by decide +kernel
theorem dX1_branch_0 : decode cX1_branch 0 = .ok (.iload_n 1, 1) := by decide +kernel
theorem dX1_branch_1 : decode cX1_branch 1 = .ok (.bipush 24, 2) := by decide +kernel
theorem dX1_branch_3 : decode cX1_branch 3 = .ok (.invokestatic 97, 3) := by decide +kernel
theorem dX1_branch_6 : decode cX1_branch 6 = .ok (.ifCond .eq 19, 3) := by decide +kernel
theorem dX1_branch_9 : decode cX1_branch 9 = .ok (.aload_n 0, 1) := by decide +kernel
theorem dX1_branch_10 : decode cX1_branch 10 = .ok (.getfield 9, 3) := by decide +kernel
theorem dX1_branch_13 : decode cX1_branch 13 = .ok (.bipush 14, 2) := by decide +kernel
theorem dX1_branch_15 : decode cX1_branch 15 = .ok (.aload_n 0, 1) := by decide +kernel
theorem dX1_branch_16 : decode cX1_branch 16 = .ok (.getfield 9, 3) := by decide +kernel
theorem dX1_branch_19 : decode cX1_branch 19 = .ok (.invokevirtual 182, 3) := by decide +kernel
theorem dX1_branch_22 : decode cX1_branch 22 = .ok (.invokevirtual 109, 3) := by decide +kernel
theorem dX1_branch_25 : decode cX1_branch 25 = .ok (.aload_n 0, 1) := by decide +kernel
theorem dX1_branch_26 : decode cX1_branch 26 = .ok (.getfield 9, 3) := by decide +kernel
theorem dX1_branch_29 : decode cX1_branch 29 = .ok (.aload_n 0, 1) := by decide +kernel
theorem dX1_branch_30 : decode cX1_branch 30 = .ok (.getfield 9, 3) := by decide +kernel
theorem dX1_branch_33 : decode cX1_branch 33 = .ok (.bipush 15, 2) := by decide +kernel
theorem dX1_branch_35 : decode cX1_branch 35 = .ok (.invokevirtual 46, 3) := by decide +kernel
theorem dX1_branch_38 : decode cX1_branch 38 = .ok (.iconst 4, 1) := by decide +kernel
theorem dX1_branch_39 : decode cX1_branch 39 = .ok (.iload_n 1, 1) := by decide +kernel
theorem dX1_branch_40 : decode cX1_branch 40 = .ok (.bipush 8, 2) := by decide +kernel
theorem dX1_branch_42 : decode cX1_branch 42 = .ok (.ishl, 1) := by decide +kernel
theorem dX1_branch_43 : decode cX1_branch 43 = .ok (.bipush 8, 2) := by decide +kernel
theorem dX1_branch_45 : decode cX1_branch 45 = .ok (.ishr, 1) := by decide +kernel
theorem dX1_branch_46 : decode cX1_branch 46 = .ok (.imul, 1) := by decide +kernel
theorem dX1_branch_47 : decode cX1_branch 47 = .ok (.iadd, 1) := by decide +kernel
theorem dX1_branch_48 : decode cX1_branch 48 = .ok (.invokevirtual 185, 3) := by decide +kernel
theorem dX1_branch_51 : decode cX1_branch 51 = .ok (.iconst (-1), 1) := by decide +kernel
theorem dX1_branch_52 : decode cX1_branch 52 = .ok (.ireturn, 1) := by decide +kernel
theorem dX2_on_0 : decode cX2_on 0 = .ok (.iload_n 0, 1) := by decide +kernel
theorem dX2_on_1 : decode cX2_on 1 = .ok (.iload_n 1, 1) := by decide +kernel
theorem dX2_on_2 : decode cX2_on 2 = .ok (.iushr, 1) := by decide +kernel
theorem dX2_on_3 : decode cX2_on 3 = .ok (.iconst 1, 1) := by decide +kernel
theorem dX2_on_4 : decode cX2_on 4 = .ok (.iand, 1) := by decide +kernel
theorem dX2_on_5 : decode cX2_on 5 = .ok (.ifCond .eq 7, 3) := by decide +kernel
theorem dX2_on_8 : decode cX2_on 8 = .ok (.iconst 1, 1) := by decide +kernel
theorem dX2_on_9 : decode cX2_on 9 = .ok (.goto 4, 3) := by decide +kernel
theorem dX2_on_12 : decode cX2_on 12 = .ok (.iconst 0, 1) := by decide +kernel
theorem dX2_on_13 : decode cX2_on 13 = .ok (.ireturn, 1) := by decide +kernel
theorem dX2_three_0 : decode cX2_three 0 = .ok (.iload_n 0, 1) := by decide +kernel
theorem dX2_three_1 : decode cX2_three 1 = .ok (.iload_n 1, 1) := by decide +kernel
theorem dX2_three_2 : decode cX2_three 2 = .ok (.iushr, 1) := by decide +kernel
theorem dX2_three_3 : decode cX2_three 3 = .ok (.bipush 7, 2) := by decide +kernel
theorem dX2_three_5 : decode cX2_three 5 = .ok (.iand, 1) := by decide +kernel
theorem dX2_three_6 : decode cX2_three 6 = .ok (.ireturn, 1) := by decide +kernel
theorem dX2_four_0 : decode cX2_four 0 = .ok (.iload_n 0, 1) := by decide +kernel
theorem dX2_four_1 : decode cX2_four 1 = .ok (.iload_n 1, 1) := by decide +kernel
theorem dX2_four_2 : decode cX2_four 2 = .ok (.iushr, 1) := by decide +kernel
theorem dX2_four_3 : decode cX2_four 3 = .ok (.bipush 15, 2) := by decide +kernel
theorem dX2_four_5 : decode cX2_four 5 = .ok (.iand, 1) := by decide +kernel
theorem dX2_four_6 : decode cX2_four 6 = .ok (.ireturn, 1) := by decide +kernel
theorem dX2_five_0 : decode cX2_five 0 = .ok (.iload_n 0, 1) := by decide +kernel
theorem dX2_five_1 : decode cX2_five 1 = .ok (.iload_n 1, 1) := by decide +kernel
theorem dX2_five_2 : decode cX2_five 2 = .ok (.iushr, 1) := by decide +kernel
theorem dX2_five_3 : decode cX2_five 3 = .ok (.bipush 31, 2) := by decide +kernel
theorem dX2_five_5 : decode cX2_five 5 = .ok (.iand, 1) := by decide +kernel
theorem dX2_five_6 : decode cX2_five 6 = .ok (.ireturn, 1) := by decide +kernel
theorem dX3_isKind_0 : decode cX3_isKind 0 = .ok (.iload_n 0, 1) := by decide +kernel
theorem dX3_isKind_1 : decode cX3_isKind 1 = .ok (.ifCond .lt 13, 3) := by decide +kernel
theorem dX3_isKind_4 : decode cX3_isKind 4 = .ok (.iload_n 0, 1) := by decide +kernel
theorem dX3_isKind_5 : decode cX3_isKind 5 = .ok (.bipush 6, 2) := by decide +kernel
theorem dX3_isKind_7 : decode cX3_isKind 7 = .ok (.if_icmp .ge 7, 3) := by decide +kernel
theorem dX3_isKind_10 : decode cX3_isKind 10 = .ok (.iconst 1, 1) := by decide +kernel
theorem dX3_isKind_11 : decode cX3_isKind 11 = .ok (.goto 4, 3) := by decide +kernel
theorem dX3_isKind_14 : decode cX3_isKind 14 = .ok (.iconst 0, 1) := by decide +kernel
theorem dX3_isKind_15 : decode cX3_isKind 15 = .ok (.ireturn, 1) := by decide +kernel
theorem dX3_modeOf_0 : decode cX3_modeOf 0 = .ok (.iload_n 0, 1) := by decide +kernel
theorem dX3_modeOf_1 : decode cX3_modeOf 1 = .ok (.invokestatic 9, 3) := by decide +kernel
theorem dX3_modeOf_4 : decode cX3_modeOf 4 = .ok (.ifCond .eq 11, 3) := by decide +kernel
theorem dX3_modeOf_7 : decode cX3_modeOf 7 = .ok (.getstatic 13, 3) := by decide +kernel
theorem dX3_modeOf_10 : decode cX3_modeOf 10 = .ok (.iload_n 0, 1) := by decide +kernel
theorem dX3_modeOf_11 : decode cX3_modeOf 11 = .ok (.iaload, 1) := by decide +kernel
theorem dX3_modeOf_12 : decode cX3_modeOf 12 = .ok (.goto 8, 3) := by decide +kernel
theorem dX3_modeOf_15 : decode cX3_modeOf 15 = .ok (.getstatic 13, 3) := by decide +kernel
theorem dX3_modeOf_18 : decode cX3_modeOf 18 = .ok (.iconst 0, 1) := by decide +kernel
theorem dX3_modeOf_19 : decode cX3_modeOf 19 = .ok (.iaload, 1) := by decide +kernel
theorem dX3_modeOf_20 : decode cX3_modeOf 20 = .ok (.ireturn, 1) := by decide +kernel
theorem dX3_vectorOf_0 : decode cX3_vectorOf 0 = .ok (.iload_n 0, 1) := by decide +kernel
theorem dX3_vectorOf_1 : decode cX3_vectorOf 1 = .ok (.invokestatic 9, 3) := by decide +kernel
theorem dX3_vectorOf_4 : decode cX3_vectorOf 4 = .ok (.ifCond .eq 11, 3) := by decide +kernel
theorem dX3_vectorOf_7 : decode cX3_vectorOf 7 = .ok (.getstatic 17, 3) := by decide +kernel
theorem dX3_vectorOf_10 : decode cX3_vectorOf 10 = .ok (.iload_n 0, 1) := by decide +kernel
theorem dX3_vectorOf_11 : decode cX3_vectorOf 11 = .ok (.iaload, 1) := by decide +kernel
theorem dX3_vectorOf_12 : decode cX3_vectorOf 12 = .ok (.goto 8, 3) := by decide +kernel
theorem dX3_vectorOf_15 : decode cX3_vectorOf 15 = .ok (.getstatic 17, 3) := by decide +kernel
theorem dX3_vectorOf_18 : decode cX3_vectorOf 18 = .ok (.iconst 0, 1) := by decide +kernel
theorem dX3_vectorOf_19 : decode cX3_vectorOf 19 = .ok (.iaload, 1) := by decide +kernel
theorem dX3_vectorOf_20 : decode cX3_vectorOf 20 = .ok (.ireturn, 1) := by decide +kernel
theorem dX4_init_0 : decode cX4_init 0 = .ok (.aload_n 0, 1) := by decide +kernel
theorem dX4_init_1 : decode cX4_init 1 = .ok (.invokespecial 1, 3) := by decide +kernel
theorem dX4_init_4 : decode cX4_init 4 = .ok (.aload_n 0, 1) := by decide +kernel
theorem dX4_init_5 : decode cX4_init 5 = .ok (.ldc 9, 2) := by decide +kernel
theorem dX4_init_7 : decode cX4_init 7 = .ok (.newarray .int, 2) := by decide +kernel
theorem dX4_init_9 : decode cX4_init 9 = .ok (.putfield 10, 3) := by decide +kernel
theorem dX4_init_12 : decode cX4_init 12 = .ok (.return_, 1) := by decide +kernel
theorem dX4_holds_0 : decode cX4_holds 0 = .ok (.iload_n 1, 1) := by decide +kernel
theorem dX4_holds_1 : decode cX4_holds 1 = .ok (.ifCond .lt 13, 3) := by decide +kernel
theorem dX4_holds_4 : decode cX4_holds 4 = .ok (.iload_n 1, 1) := by decide +kernel
theorem dX4_holds_5 : decode cX4_holds 5 = .ok (.ldc 14, 2) := by decide +kernel
theorem dX4_holds_7 : decode cX4_holds 7 = .ok (.if_icmp .ge 7, 3) := by decide +kernel
theorem dX4_holds_10 : decode cX4_holds 10 = .ok (.iconst 1, 1) := by decide +kernel
theorem dX4_holds_11 : decode cX4_holds 11 = .ok (.goto 4, 3) := by decide +kernel
theorem dX4_holds_14 : decode cX4_holds 14 = .ok (.iconst 0, 1) := by decide +kernel
theorem dX4_holds_15 : decode cX4_holds 15 = .ok (.ireturn, 1) := by decide +kernel
theorem dX4_word_0 : decode cX4_word 0 = .ok (.aload_n 0, 1) := by decide +kernel
theorem dX4_word_1 : decode cX4_word 1 = .ok (.getfield 10, 3) := by decide +kernel
theorem dX4_word_4 : decode cX4_word 4 = .ok (.iload_n 1, 1) := by decide +kernel
theorem dX4_word_5 : decode cX4_word 5 = .ok (.ldc 15, 2) := by decide +kernel
theorem dX4_word_7 : decode cX4_word 7 = .ok (.iand, 1) := by decide +kernel
theorem dX4_word_8 : decode cX4_word 8 = .ok (.iconst 2, 1) := by decide +kernel
theorem dX4_word_9 : decode cX4_word 9 = .ok (.iushr, 1) := by decide +kernel
theorem dX4_word_10 : decode cX4_word 10 = .ok (.iaload, 1) := by decide +kernel
theorem dX4_word_11 : decode cX4_word 11 = .ok (.ireturn, 1) := by decide +kernel
theorem dX4_putWord_0 : decode cX4_putWord 0 = .ok (.aload_n 0, 1) := by decide +kernel
theorem dX4_putWord_1 : decode cX4_putWord 1 = .ok (.getfield 10, 3) := by decide +kernel
theorem dX4_putWord_4 : decode cX4_putWord 4 = .ok (.iload_n 1, 1) := by decide +kernel
theorem dX4_putWord_5 : decode cX4_putWord 5 = .ok (.ldc 15, 2) := by decide +kernel
theorem dX4_putWord_7 : decode cX4_putWord 7 = .ok (.iand, 1) := by decide +kernel
theorem dX4_putWord_8 : decode cX4_putWord 8 = .ok (.iconst 2, 1) := by decide +kernel
theorem dX4_putWord_9 : decode cX4_putWord 9 = .ok (.iushr, 1) := by decide +kernel
theorem dX4_putWord_10 : decode cX4_putWord 10 = .ok (.iload_n 2, 1) := by decide +kernel
theorem dX4_putWord_11 : decode cX4_putWord 11 = .ok (.iastore, 1) := by decide +kernel
theorem dX4_putWord_12 : decode cX4_putWord 12 = .ok (.return_, 1) := by decide +kernel
theorem dX4_half_0 : decode cX4_half 0 = .ok (.aload_n 0, 1) := by decide +kernel
theorem dX4_half_1 : decode cX4_half 1 = .ok (.iload_n 1, 1) := by decide +kernel
theorem dX4_half_2 : decode cX4_half 2 = .ok (.invokevirtual 16, 3) := by decide +kernel
theorem dX4_half_5 : decode cX4_half 5 = .ok (.bipush 8, 2) := by decide +kernel
theorem dX4_half_7 : decode cX4_half 7 = .ok (.iload_n 1, 1) := by decide +kernel
theorem dX4_half_8 : decode cX4_half 8 = .ok (.iconst 2, 1) := by decide +kernel
theorem dX4_half_9 : decode cX4_half 9 = .ok (.iand, 1) := by decide +kernel
theorem dX4_half_10 : decode cX4_half 10 = .ok (.imul, 1) := by decide +kernel
theorem dX4_half_11 : decode cX4_half 11 = .ok (.iushr, 1) := by decide +kernel
theorem dX4_half_12 : decode cX4_half 12 = .ok (.ldc 20, 2) := by decide +kernel
theorem dX4_half_14 : decode cX4_half 14 = .ok (.iand, 1) := by decide +kernel
theorem dX4_half_15 : decode cX4_half 15 = .ok (.ireturn, 1) := by decide +kernel
theorem dX4_load_0 : decode cX4_load 0 = .ok (.aload_n 0, 1) := by decide +kernel
theorem dX4_load_1 : decode cX4_load 1 = .ok (.iload_n 2, 1) := by decide +kernel
theorem dX4_load_2 : decode cX4_load 2 = .ok (.invokevirtual 16, 3) := by decide +kernel
theorem dX4_load_5 : decode cX4_load 5 = .ok (.istore_n 3, 1) := by decide +kernel
theorem dX4_load_6 : decode cX4_load 6 = .ok (.bipush 8, 2) := by decide +kernel
theorem dX4_load_8 : decode cX4_load 8 = .ok (.iload_n 2, 1) := by decide +kernel
theorem dX4_load_9 : decode cX4_load 9 = .ok (.iconst 3, 1) := by decide +kernel
theorem dX4_load_10 : decode cX4_load 10 = .ok (.iand, 1) := by decide +kernel
theorem dX4_load_11 : decode cX4_load 11 = .ok (.imul, 1) := by decide +kernel
theorem dX4_load_12 : decode cX4_load 12 = .ok (.istore 4, 2) := by decide +kernel
theorem dX4_load_14 : decode cX4_load 14 = .ok (.bipush 8, 2) := by decide +kernel
theorem dX4_load_16 : decode cX4_load 16 = .ok (.iload_n 2, 1) := by decide +kernel
theorem dX4_load_17 : decode cX4_load 17 = .ok (.iconst 2, 1) := by decide +kernel
theorem dX4_load_18 : decode cX4_load 18 = .ok (.iand, 1) := by decide +kernel
theorem dX4_load_19 : decode cX4_load 19 = .ok (.imul, 1) := by decide +kernel
theorem dX4_load_20 : decode cX4_load 20 = .ok (.istore 5, 2) := by decide +kernel
theorem dX4_load_22 : decode cX4_load 22 = .ok (.iload_n 1, 1) := by decide +kernel
theorem dX4_load_23 : decode cX4_load 23 = .ok (.tableswitch 58 1 4 #[29, 44, 38, 52], 29) := by decide +kernel
theorem dX4_load_52 : decode cX4_load 52 = .ok (.iload_n 3, 1) := by decide +kernel
theorem dX4_load_53 : decode cX4_load 53 = .ok (.iload 4, 2) := by decide +kernel
theorem dX4_load_55 : decode cX4_load 55 = .ok (.iushr, 1) := by decide +kernel
theorem dX4_load_56 : decode cX4_load 56 = .ok (.sipush 255, 3) := by decide +kernel
theorem dX4_load_59 : decode cX4_load 59 = .ok (.iand, 1) := by decide +kernel
theorem dX4_load_60 : decode cX4_load 60 = .ok (.ireturn, 1) := by decide +kernel
theorem dX4_load_61 : decode cX4_load 61 = .ok (.iload_n 3, 1) := by decide +kernel
theorem dX4_load_62 : decode cX4_load 62 = .ok (.iload 4, 2) := by decide +kernel
theorem dX4_load_64 : decode cX4_load 64 = .ok (.iushr, 1) := by decide +kernel
theorem dX4_load_65 : decode cX4_load 65 = .ok (.i2b, 1) := by decide +kernel
theorem dX4_load_66 : decode cX4_load 66 = .ok (.ireturn, 1) := by decide +kernel
theorem dX4_load_67 : decode cX4_load 67 = .ok (.iload_n 3, 1) := by decide +kernel
theorem dX4_load_68 : decode cX4_load 68 = .ok (.iload 5, 2) := by decide +kernel
theorem dX4_load_70 : decode cX4_load 70 = .ok (.iushr, 1) := by decide +kernel
theorem dX4_load_71 : decode cX4_load 71 = .ok (.ldc 20, 2) := by decide +kernel
theorem dX4_load_73 : decode cX4_load 73 = .ok (.iand, 1) := by decide +kernel
theorem dX4_load_74 : decode cX4_load 74 = .ok (.ireturn, 1) := by decide +kernel
theorem dX4_load_75 : decode cX4_load 75 = .ok (.iload_n 3, 1) := by decide +kernel
theorem dX4_load_76 : decode cX4_load 76 = .ok (.iload 5, 2) := by decide +kernel
theorem dX4_load_78 : decode cX4_load 78 = .ok (.iushr, 1) := by decide +kernel
theorem dX4_load_79 : decode cX4_load 79 = .ok (.i2s, 1) := by decide +kernel
theorem dX4_load_80 : decode cX4_load 80 = .ok (.ireturn, 1) := by decide +kernel
theorem dX4_load_81 : decode cX4_load 81 = .ok (.iload_n 3, 1) := by decide +kernel
theorem dX4_load_82 : decode cX4_load 82 = .ok (.iload 4, 2) := by decide +kernel
theorem dX4_load_84 : decode cX4_load 84 = .ok (.invokestatic 21, 3) := by decide +kernel
theorem dX4_load_87 : decode cX4_load 87 = .ok (.ireturn, 1) := by decide +kernel
theorem dX4_store_0 : decode cX4_store 0 = .ok (.iload_n 1, 1) := by decide +kernel
theorem dX4_store_1 : decode cX4_store 1 = .ok (.ifCond .ne 10, 3) := by decide +kernel
theorem dX4_store_4 : decode cX4_store 4 = .ok (.aload_n 0, 1) := by decide +kernel
theorem dX4_store_5 : decode cX4_store 5 = .ok (.iload_n 2, 1) := by decide +kernel
theorem dX4_store_6 : decode cX4_store 6 = .ok (.iload_n 3, 1) := by decide +kernel
theorem dX4_store_7 : decode cX4_store 7 = .ok (.invokevirtual 27, 3) := by decide +kernel
theorem dX4_store_10 : decode cX4_store 10 = .ok (.return_, 1) := by decide +kernel
theorem dX4_store_11 : decode cX4_store 11 = .ok (.iload_n 1, 1) := by decide +kernel
theorem dX4_store_12 : decode cX4_store 12 = .ok (.iconst 1, 1) := by decide +kernel
theorem dX4_store_13 : decode cX4_store 13 = .ok (.if_icmp .ne 9, 3) := by decide +kernel
theorem dX4_store_16 : decode cX4_store 16 = .ok (.sipush 255, 3) := by decide +kernel
theorem dX4_store_19 : decode cX4_store 19 = .ok (.goto 5, 3) := by decide +kernel
theorem dX4_store_22 : decode cX4_store 22 = .ok (.ldc 20, 2) := by decide +kernel
theorem dX4_store_24 : decode cX4_store 24 = .ok (.istore 4, 2) := by decide +kernel
theorem dX4_store_26 : decode cX4_store 26 = .ok (.bipush 8, 2) := by decide +kernel
theorem dX4_store_28 : decode cX4_store 28 = .ok (.iload_n 1, 1) := by decide +kernel
theorem dX4_store_29 : decode cX4_store 29 = .ok (.iconst 1, 1) := by decide +kernel
theorem dX4_store_30 : decode cX4_store 30 = .ok (.if_icmp .ne 9, 3) := by decide +kernel
theorem dX4_store_33 : decode cX4_store 33 = .ok (.iload_n 2, 1) := by decide +kernel
theorem dX4_store_34 : decode cX4_store 34 = .ok (.iconst 3, 1) := by decide +kernel
theorem dX4_store_35 : decode cX4_store 35 = .ok (.iand, 1) := by decide +kernel
theorem dX4_store_36 : decode cX4_store 36 = .ok (.goto 6, 3) := by decide +kernel
theorem dX4_store_39 : decode cX4_store 39 = .ok (.iload_n 2, 1) := by decide +kernel
theorem dX4_store_40 : decode cX4_store 40 = .ok (.iconst 2, 1) := by decide +kernel
theorem dX4_store_41 : decode cX4_store 41 = .ok (.iand, 1) := by decide +kernel
theorem dX4_store_42 : decode cX4_store 42 = .ok (.imul, 1) := by decide +kernel
theorem dX4_store_43 : decode cX4_store 43 = .ok (.istore 5, 2) := by decide +kernel
theorem dX4_store_45 : decode cX4_store 45 = .ok (.aload_n 0, 1) := by decide +kernel
theorem dX4_store_46 : decode cX4_store 46 = .ok (.iload_n 2, 1) := by decide +kernel
theorem dX4_store_47 : decode cX4_store 47 = .ok (.aload_n 0, 1) := by decide +kernel
theorem dX4_store_48 : decode cX4_store 48 = .ok (.iload_n 2, 1) := by decide +kernel
theorem dX4_store_49 : decode cX4_store 49 = .ok (.invokevirtual 16, 3) := by decide +kernel
theorem dX4_store_52 : decode cX4_store 52 = .ok (.iload 4, 2) := by decide +kernel
theorem dX4_store_54 : decode cX4_store 54 = .ok (.iload 5, 2) := by decide +kernel
theorem dX4_store_56 : decode cX4_store 56 = .ok (.ishl, 1) := by decide +kernel
theorem dX4_store_57 : decode cX4_store 57 = .ok (.iconst (-1), 1) := by decide +kernel
theorem dX4_store_58 : decode cX4_store 58 = .ok (.ixor, 1) := by decide +kernel
theorem dX4_store_59 : decode cX4_store 59 = .ok (.iand, 1) := by decide +kernel
theorem dX4_store_60 : decode cX4_store 60 = .ok (.iload_n 3, 1) := by decide +kernel
theorem dX4_store_61 : decode cX4_store 61 = .ok (.iload 4, 2) := by decide +kernel
theorem dX4_store_63 : decode cX4_store 63 = .ok (.iand, 1) := by decide +kernel
theorem dX4_store_64 : decode cX4_store 64 = .ok (.iload 5, 2) := by decide +kernel
theorem dX4_store_66 : decode cX4_store 66 = .ok (.ishl, 1) := by decide +kernel
theorem dX4_store_67 : decode cX4_store 67 = .ok (.ior, 1) := by decide +kernel
theorem dX4_store_68 : decode cX4_store 68 = .ok (.invokevirtual 27, 3) := by decide +kernel
theorem dX4_store_71 : decode cX4_store 71 = .ok (.return_, 1) := by decide +kernel
theorem dX5_init_0 : decode cX5_init 0 = .ok (.aload_n 0, 1) := by decide +kernel
theorem dX5_init_1 : decode cX5_init 1 = .ok (.invokespecial 1, 3) := by decide +kernel
theorem dX5_init_4 : decode cX5_init 4 = .ok (.aload_n 0, 1) := by decide +kernel
theorem dX5_init_5 : decode cX5_init 5 = .ok (.aload_n 1, 1) := by decide +kernel
theorem dX5_init_6 : decode cX5_init 6 = .ok (.putfield 7, 3) := by decide +kernel
theorem dX5_init_9 : decode cX5_init 9 = .ok (.aload_n 0, 1) := by decide +kernel
theorem dX5_init_10 : decode cX5_init 10 = .ok (.aload_n 2, 1) := by decide +kernel
theorem dX5_init_11 : decode cX5_init 11 = .ok (.putfield 13, 3) := by decide +kernel
theorem dX5_init_14 : decode cX5_init 14 = .ok (.new 17, 3) := by decide +kernel
theorem dX5_init_17 : decode cX5_init 17 = .ok (.dup, 1) := by decide +kernel
theorem dX5_init_18 : decode cX5_init 18 = .ok (.invokespecial 19, 3) := by decide +kernel
theorem dX5_init_21 : decode cX5_init 21 = .ok (.astore_n 3, 1) := by decide +kernel
theorem dX5_init_22 : decode cX5_init 22 = .ok (.new 20, 3) := by decide +kernel
theorem dX5_init_25 : decode cX5_init 25 = .ok (.dup, 1) := by decide +kernel
theorem dX5_init_26 : decode cX5_init 26 = .ok (.aload_n 2, 1) := by decide +kernel
theorem dX5_init_27 : decode cX5_init 27 = .ok (.invokespecial 22, 3) := by decide +kernel
theorem dX5_init_30 : decode cX5_init 30 = .ok (.astore 4, 2) := by decide +kernel
theorem dX5_init_32 : decode cX5_init 32 = .ok (.new 25, 3) := by decide +kernel
theorem dX5_init_35 : decode cX5_init 35 = .ok (.dup, 1) := by decide +kernel
theorem dX5_init_36 : decode cX5_init 36 = .ok (.aload_n 1, 1) := by decide +kernel
theorem dX5_init_37 : decode cX5_init 37 = .ok (.aload_n 2, 1) := by decide +kernel
theorem dX5_init_38 : decode cX5_init 38 = .ok (.invokespecial 27, 3) := by decide +kernel
theorem dX5_init_41 : decode cX5_init 41 = .ok (.astore 5, 2) := by decide +kernel
theorem dX5_init_43 : decode cX5_init 43 = .ok (.aload_n 0, 1) := by decide +kernel
theorem dX5_init_44 : decode cX5_init 44 = .ok (.new 30, 3) := by decide +kernel
theorem dX5_init_47 : decode cX5_init 47 = .ok (.dup, 1) := by decide +kernel
theorem dX5_init_48 : decode cX5_init 48 = .ok (.aload_n 2, 1) := by decide +kernel
theorem dX5_init_49 : decode cX5_init 49 = .ok (.aload_n 3, 1) := by decide +kernel
theorem dX5_init_50 : decode cX5_init 50 = .ok (.aload 4, 2) := by decide +kernel
theorem dX5_init_52 : decode cX5_init 52 = .ok (.aload 5, 2) := by decide +kernel
theorem dX5_init_54 : decode cX5_init 54 = .ok (.invokespecial 32, 3) := by decide +kernel
theorem dX5_init_57 : decode cX5_init 57 = .ok (.putfield 35, 3) := by decide +kernel
theorem dX5_init_60 : decode cX5_init 60 = .ok (.aload_n 0, 1) := by decide +kernel
theorem dX5_init_61 : decode cX5_init 61 = .ok (.new 39, 3) := by decide +kernel
theorem dX5_init_64 : decode cX5_init 64 = .ok (.dup, 1) := by decide +kernel
theorem dX5_init_65 : decode cX5_init 65 = .ok (.aload_n 2, 1) := by decide +kernel
theorem dX5_init_66 : decode cX5_init 66 = .ok (.aload_n 3, 1) := by decide +kernel
theorem dX5_init_67 : decode cX5_init 67 = .ok (.aload 4, 2) := by decide +kernel
theorem dX5_init_69 : decode cX5_init 69 = .ok (.aload 5, 2) := by decide +kernel
theorem dX5_init_71 : decode cX5_init 71 = .ok (.invokespecial 41, 3) := by decide +kernel
theorem dX5_init_74 : decode cX5_init 74 = .ok (.putfield 42, 3) := by decide +kernel
theorem dX5_init_77 : decode cX5_init 77 = .ok (.aload_n 0, 1) := by decide +kernel
theorem dX5_init_78 : decode cX5_init 78 = .ok (.bipush 6, 2) := by decide +kernel
theorem dX5_init_80 : decode cX5_init 80 = .ok (.newarray .int, 2) := by decide +kernel
theorem dX5_init_82 : decode cX5_init 82 = .ok (.putfield 48, 3) := by decide +kernel
theorem dX5_init_85 : decode cX5_init 85 = .ok (.aload_n 0, 1) := by decide +kernel
theorem dX5_init_86 : decode cX5_init 86 = .ok (.iconst 0, 1) := by decide +kernel
theorem dX5_init_87 : decode cX5_init 87 = .ok (.putfield 52, 3) := by decide +kernel
theorem dX5_init_90 : decode cX5_init 90 = .ok (.aload_n 0, 1) := by decide +kernel
theorem dX5_init_91 : decode cX5_init 91 = .ok (.iconst 0, 1) := by decide +kernel
theorem dX5_init_92 : decode cX5_init 92 = .ok (.putfield 56, 3) := by decide +kernel
theorem dX5_init_95 : decode cX5_init 95 = .ok (.aload_n 0, 1) := by decide +kernel
theorem dX5_init_96 : decode cX5_init 96 = .ok (.iconst 0, 1) := by decide +kernel
theorem dX5_init_97 : decode cX5_init 97 = .ok (.putfield 60, 3) := by decide +kernel
theorem dX5_init_100 : decode cX5_init 100 = .ok (.return_, 1) := by decide +kernel
theorem dX5_switchIrq_0 : decode cX5_switchIrq 0 = .ok (.aload_n 0, 1) := by decide +kernel
theorem dX5_switchIrq_1 : decode cX5_switchIrq 1 = .ok (.getfield 56, 3) := by decide +kernel
theorem dX5_switchIrq_4 : decode cX5_switchIrq 4 = .ok (.istore_n 2, 1) := by decide +kernel
theorem dX5_switchIrq_5 : decode cX5_switchIrq 5 = .ok (.aload_n 0, 1) := by decide +kernel
theorem dX5_switchIrq_6 : decode cX5_switchIrq 6 = .ok (.iload_n 1, 1) := by decide +kernel
theorem dX5_switchIrq_7 : decode cX5_switchIrq 7 = .ok (.putfield 56, 3) := by decide +kernel
theorem dX5_switchIrq_10 : decode cX5_switchIrq 10 = .ok (.iload_n 2, 1) := by decide +kernel
theorem dX5_switchIrq_11 : decode cX5_switchIrq 11 = .ok (.ireturn, 1) := by decide +kernel
theorem dX5_switchFiq_0 : decode cX5_switchFiq 0 = .ok (.aload_n 0, 1) := by decide +kernel
theorem dX5_switchFiq_1 : decode cX5_switchFiq 1 = .ok (.getfield 60, 3) := by decide +kernel
theorem dX5_switchFiq_4 : decode cX5_switchFiq 4 = .ok (.istore_n 2, 1) := by decide +kernel
theorem dX5_switchFiq_5 : decode cX5_switchFiq 5 = .ok (.aload_n 0, 1) := by decide +kernel
theorem dX5_switchFiq_6 : decode cX5_switchFiq 6 = .ok (.iload_n 1, 1) := by decide +kernel
theorem dX5_switchFiq_7 : decode cX5_switchFiq 7 = .ok (.putfield 60, 3) := by decide +kernel
theorem dX5_switchFiq_10 : decode cX5_switchFiq 10 = .ok (.iload_n 2, 1) := by decide +kernel
theorem dX5_switchFiq_11 : decode cX5_switchFiq 11 = .ok (.ireturn, 1) := by decide +kernel
theorem dX5_steps_0 : decode cX5_steps 0 = .ok (.aload_n 0, 1) := by decide +kernel
theorem dX5_steps_1 : decode cX5_steps 1 = .ok (.getfield 52, 3) := by decide +kernel
theorem dX5_steps_4 : decode cX5_steps 4 = .ok (.ireturn, 1) := by decide +kernel
theorem dX5_faultsOf_0 : decode cX5_faultsOf 0 = .ok (.iload_n 1, 1) := by decide +kernel
theorem dX5_faultsOf_1 : decode cX5_faultsOf 1 = .ok (.invokestatic 63, 3) := by decide +kernel
theorem dX5_faultsOf_4 : decode cX5_faultsOf 4 = .ok (.ifCond .eq 12, 3) := by decide +kernel
theorem dX5_faultsOf_7 : decode cX5_faultsOf 7 = .ok (.aload_n 0, 1) := by decide +kernel
theorem dX5_faultsOf_8 : decode cX5_faultsOf 8 = .ok (.getfield 48, 3) := by decide +kernel
theorem dX5_faultsOf_11 : decode cX5_faultsOf 11 = .ok (.iload_n 1, 1) := by decide +kernel
theorem dX5_faultsOf_12 : decode cX5_faultsOf 12 = .ok (.iaload, 1) := by decide +kernel
theorem dX5_faultsOf_13 : decode cX5_faultsOf 13 = .ok (.goto 4, 3) := by decide +kernel
theorem dX5_faultsOf_16 : decode cX5_faultsOf 16 = .ok (.iconst 0, 1) := by decide +kernel
theorem dX5_faultsOf_17 : decode cX5_faultsOf 17 = .ok (.ireturn, 1) := by decide +kernel
theorem dX5_advance_0 : decode cX5_advance 0 = .ok (.aload_n 0, 1) := by decide +kernel
theorem dX5_advance_1 : decode cX5_advance 1 = .ok (.dup, 1) := by decide +kernel
theorem dX5_advance_2 : decode cX5_advance 2 = .ok (.getfield 52, 3) := by decide +kernel
theorem dX5_advance_5 : decode cX5_advance 5 = .ok (.iconst 1, 1) := by decide +kernel
theorem dX5_advance_6 : decode cX5_advance 6 = .ok (.iadd, 1) := by decide +kernel
theorem dX5_advance_7 : decode cX5_advance 7 = .ok (.putfield 52, 3) := by decide +kernel
theorem dX5_advance_10 : decode cX5_advance 10 = .ok (.aload_n 0, 1) := by decide +kernel
theorem dX5_advance_11 : decode cX5_advance 11 = .ok (.getfield 13, 3) := by decide +kernel
theorem dX5_advance_14 : decode cX5_advance 14 = .ok (.invokevirtual 67, 3) := by decide +kernel
theorem dX5_advance_17 : decode cX5_advance 17 = .ok (.aload_n 0, 1) := by decide +kernel
theorem dX5_advance_18 : decode cX5_advance 18 = .ok (.getfield 60, 3) := by decide +kernel
theorem dX5_advance_21 : decode cX5_advance 21 = .ok (.ifCond .eq 15, 3) := by decide +kernel
theorem dX5_advance_24 : decode cX5_advance 24 = .ok (.aload_n 0, 1) := by decide +kernel
theorem dX5_advance_25 : decode cX5_advance 25 = .ok (.getfield 13, 3) := by decide +kernel
theorem dX5_advance_28 : decode cX5_advance 28 = .ok (.invokevirtual 72, 3) := by decide +kernel
theorem dX5_advance_31 : decode cX5_advance 31 = .ok (.ifCond .eq 5, 3) := by decide +kernel
theorem dX5_advance_34 : decode cX5_advance 34 = .ok (.iconst 5, 1) := by decide +kernel
theorem dX5_advance_35 : decode cX5_advance 35 = .ok (.ireturn, 1) := by decide +kernel
theorem dX5_advance_36 : decode cX5_advance 36 = .ok (.aload_n 0, 1) := by decide +kernel
theorem dX5_advance_37 : decode cX5_advance 37 = .ok (.getfield 56, 3) := by decide +kernel
theorem dX5_advance_40 : decode cX5_advance 40 = .ok (.ifCond .eq 15, 3) := by decide +kernel
theorem dX5_advance_43 : decode cX5_advance 43 = .ok (.aload_n 0, 1) := by decide +kernel
theorem dX5_advance_44 : decode cX5_advance 44 = .ok (.getfield 13, 3) := by decide +kernel
theorem dX5_advance_47 : decode cX5_advance 47 = .ok (.invokevirtual 76, 3) := by decide +kernel
theorem dX5_advance_50 : decode cX5_advance 50 = .ok (.ifCond .eq 5, 3) := by decide +kernel
theorem dX5_advance_53 : decode cX5_advance 53 = .ok (.iconst 4, 1) := by decide +kernel
theorem dX5_advance_54 : decode cX5_advance 54 = .ok (.ireturn, 1) := by decide +kernel
theorem dX5_advance_55 : decode cX5_advance 55 = .ok (.aload_n 0, 1) := by decide +kernel
theorem dX5_advance_56 : decode cX5_advance 56 = .ok (.getfield 13, 3) := by decide +kernel
theorem dX5_advance_59 : decode cX5_advance 59 = .ok (.invokevirtual 79, 3) := by decide +kernel
theorem dX5_advance_62 : decode cX5_advance 62 = .ok (.istore_n 1, 1) := by decide +kernel
theorem dX5_advance_63 : decode cX5_advance 63 = .ok (.aload_n 0, 1) := by decide +kernel
theorem dX5_advance_64 : decode cX5_advance 64 = .ok (.getfield 7, 3) := by decide +kernel
theorem dX5_advance_67 : decode cX5_advance 67 = .ok (.iload_n 1, 1) := by decide +kernel
theorem dX5_advance_68 : decode cX5_advance 68 = .ok (.invokevirtual 83, 3) := by decide +kernel
theorem dX5_advance_71 : decode cX5_advance 71 = .ok (.ifCond .ne 5, 3) := by decide +kernel
theorem dX5_advance_74 : decode cX5_advance 74 = .ok (.iconst 2, 1) := by decide +kernel
theorem dX5_advance_75 : decode cX5_advance 75 = .ok (.ireturn, 1) := by decide +kernel
theorem dX5_advance_76 : decode cX5_advance 76 = .ok (.aload_n 0, 1) := by decide +kernel
theorem dX5_advance_77 : decode cX5_advance 77 = .ok (.getfield 13, 3) := by decide +kernel
theorem dX5_advance_80 : decode cX5_advance 80 = .ok (.invokevirtual 88, 3) := by decide +kernel
theorem dX5_advance_83 : decode cX5_advance 83 = .ok (.ifCond .eq 19, 3) := by decide +kernel
theorem dX5_advance_86 : decode cX5_advance 86 = .ok (.aload_n 0, 1) := by decide +kernel
theorem dX5_advance_87 : decode cX5_advance 87 = .ok (.getfield 42, 3) := by decide +kernel
theorem dX5_advance_90 : decode cX5_advance 90 = .ok (.aload_n 0, 1) := by decide +kernel
theorem dX5_advance_91 : decode cX5_advance 91 = .ok (.getfield 7, 3) := by decide +kernel
theorem dX5_advance_94 : decode cX5_advance 94 = .ok (.iload_n 1, 1) := by decide +kernel
theorem dX5_advance_95 : decode cX5_advance 95 = .ok (.invokevirtual 90, 3) := by decide +kernel
theorem dX5_advance_98 : decode cX5_advance 98 = .ok (.invokevirtual 94, 3) := by decide +kernel
theorem dX5_advance_101 : decode cX5_advance 101 = .ok (.ireturn, 1) := by decide +kernel
theorem dX5_advance_102 : decode cX5_advance 102 = .ok (.aload_n 0, 1) := by decide +kernel
theorem dX5_advance_103 : decode cX5_advance 103 = .ok (.getfield 35, 3) := by decide +kernel
theorem dX5_advance_106 : decode cX5_advance 106 = .ok (.aload_n 0, 1) := by decide +kernel
theorem dX5_advance_107 : decode cX5_advance 107 = .ok (.getfield 7, 3) := by decide +kernel
theorem dX5_advance_110 : decode cX5_advance 110 = .ok (.iload_n 1, 1) := by decide +kernel
theorem dX5_advance_111 : decode cX5_advance 111 = .ok (.invokevirtual 97, 3) := by decide +kernel
theorem dX5_advance_114 : decode cX5_advance 114 = .ok (.invokevirtual 100, 3) := by decide +kernel
theorem dX5_advance_117 : decode cX5_advance 117 = .ok (.ireturn, 1) := by decide +kernel
theorem dX5_take_0 : decode cX5_take 0 = .ok (.iload_n 1, 1) := by decide +kernel
theorem dX5_take_1 : decode cX5_take 1 = .ok (.invokestatic 63, 3) := by decide +kernel
theorem dX5_take_4 : decode cX5_take 4 = .ok (.ifCond .eq 21, 3) := by decide +kernel
theorem dX5_take_7 : decode cX5_take 7 = .ok (.aload_n 0, 1) := by decide +kernel
theorem dX5_take_8 : decode cX5_take 8 = .ok (.getfield 48, 3) := by decide +kernel
theorem dX5_take_11 : decode cX5_take 11 = .ok (.iload_n 1, 1) := by decide +kernel
theorem dX5_take_12 : decode cX5_take 12 = .ok (.dup2, 1) := by decide +kernel
theorem dX5_take_13 : decode cX5_take 13 = .ok (.iaload, 1) := by decide +kernel
theorem dX5_take_14 : decode cX5_take 14 = .ok (.iconst 1, 1) := by decide +kernel
theorem dX5_take_15 : decode cX5_take 15 = .ok (.iadd, 1) := by decide +kernel
theorem dX5_take_16 : decode cX5_take 16 = .ok (.iastore, 1) := by decide +kernel
theorem dX5_take_17 : decode cX5_take 17 = .ok (.aload_n 0, 1) := by decide +kernel
theorem dX5_take_18 : decode cX5_take 18 = .ok (.getfield 13, 3) := by decide +kernel
theorem dX5_take_21 : decode cX5_take 21 = .ok (.iload_n 1, 1) := by decide +kernel
theorem dX5_take_22 : decode cX5_take 22 = .ok (.invokevirtual 101, 3) := by decide +kernel
theorem dX5_take_25 : decode cX5_take 25 = .ok (.return_, 1) := by decide +kernel
theorem dX6_init_0 : decode cX6_init 0 = .ok (.aload_n 0, 1) := by decide +kernel
theorem dX6_init_1 : decode cX6_init 1 = .ok (.invokespecial 3, 3) := by decide +kernel
theorem dX6_init_4 : decode cX6_init 4 = .ok (.aload_n 0, 1) := by decide +kernel
theorem dX6_init_5 : decode cX6_init 5 = .ok (.bipush 31, 2) := by decide +kernel
theorem dX6_init_7 : decode cX6_init 7 = .ok (.newarray .int, 2) := by decide +kernel
theorem dX6_init_9 : decode cX6_init 9 = .ok (.putfield 11, 3) := by decide +kernel
theorem dX6_init_12 : decode cX6_init 12 = .ok (.aload_n 0, 1) := by decide +kernel
theorem dX6_init_13 : decode cX6_init 13 = .ok (.bipush 6, 2) := by decide +kernel
theorem dX6_init_15 : decode cX6_init 15 = .ok (.newarray .int, 2) := by decide +kernel
theorem dX6_init_17 : decode cX6_init 17 = .ok (.putfield 15, 3) := by decide +kernel
theorem dX6_init_20 : decode cX6_init 20 = .ok (.aload_n 0, 1) := by decide +kernel
theorem dX6_init_21 : decode cX6_init 21 = .ok (.sipush 211, 3) := by decide +kernel
theorem dX6_init_24 : decode cX6_init 24 = .ok (.putfield 18, 3) := by decide +kernel
theorem dX6_init_27 : decode cX6_init 27 = .ok (.aload_n 0, 1) := by decide +kernel
theorem dX6_init_28 : decode cX6_init 28 = .ok (.iconst 3, 1) := by decide +kernel
theorem dX6_init_29 : decode cX6_init 29 = .ok (.putfield 22, 3) := by decide +kernel
theorem dX6_init_32 : decode cX6_init 32 = .ok (.aload_n 0, 1) := by decide +kernel
theorem dX6_init_33 : decode cX6_init 33 = .ok (.iconst 0, 1) := by decide +kernel
theorem dX6_init_34 : decode cX6_init 34 = .ok (.putfield 25, 3) := by decide +kernel
theorem dX6_init_37 : decode cX6_init 37 = .ok (.return_, 1) := by decide +kernel
theorem dX6_bankOf_0 : decode cX6_bankOf 0 = .ok (.iload_n 0, 1) := by decide +kernel
theorem dX6_bankOf_1 : decode cX6_bankOf 1 = .ok (.tableswitch 91 16 31 #[79, 81, 83, 85, 91, 91, 91, 87, 91, 91, 91, 89, 91, 91, 91, 79], 79) := by decide +kernel
theorem dX6_bankOf_80 : decode cX6_bankOf 80 = .ok (.iconst 0, 1) := by decide +kernel
theorem dX6_bankOf_81 : decode cX6_bankOf 81 = .ok (.ireturn, 1) := by decide +kernel
theorem dX6_bankOf_82 : decode cX6_bankOf 82 = .ok (.iconst 1, 1) := by decide +kernel
theorem dX6_bankOf_83 : decode cX6_bankOf 83 = .ok (.ireturn, 1) := by decide +kernel
theorem dX6_bankOf_84 : decode cX6_bankOf 84 = .ok (.iconst 2, 1) := by decide +kernel
theorem dX6_bankOf_85 : decode cX6_bankOf 85 = .ok (.ireturn, 1) := by decide +kernel
theorem dX6_bankOf_86 : decode cX6_bankOf 86 = .ok (.iconst 3, 1) := by decide +kernel
theorem dX6_bankOf_87 : decode cX6_bankOf 87 = .ok (.ireturn, 1) := by decide +kernel
theorem dX6_bankOf_88 : decode cX6_bankOf 88 = .ok (.iconst 4, 1) := by decide +kernel
theorem dX6_bankOf_89 : decode cX6_bankOf 89 = .ok (.ireturn, 1) := by decide +kernel
theorem dX6_bankOf_90 : decode cX6_bankOf 90 = .ok (.iconst 5, 1) := by decide +kernel
theorem dX6_bankOf_91 : decode cX6_bankOf 91 = .ok (.ireturn, 1) := by decide +kernel
theorem dX6_bankOf_92 : decode cX6_bankOf 92 = .ok (.iconst (-1), 1) := by decide +kernel
theorem dX6_bankOf_93 : decode cX6_bankOf 93 = .ok (.ireturn, 1) := by decide +kernel
theorem dX6_heldIn_0 : decode cX6_heldIn 0 = .ok (.aload_n 0, 1) := by decide +kernel
theorem dX6_heldIn_1 : decode cX6_heldIn 1 = .ok (.getfield 11, 3) := by decide +kernel
theorem dX6_heldIn_4 : decode cX6_heldIn 4 = .ok (.getstatic 28, 3) := by decide +kernel
theorem dX6_heldIn_7 : decode cX6_heldIn 7 = .ok (.bipush 16, 2) := by decide +kernel
theorem dX6_heldIn_9 : decode cX6_heldIn 9 = .ok (.iload_n 1, 1) := by decide +kernel
theorem dX6_heldIn_10 : decode cX6_heldIn 10 = .ok (.imul, 1) := by decide +kernel
theorem dX6_heldIn_11 : decode cX6_heldIn 11 = .ok (.iload_n 2, 1) := by decide +kernel
theorem dX6_heldIn_12 : decode cX6_heldIn 12 = .ok (.iadd, 1) := by decide +kernel
theorem dX6_heldIn_13 : decode cX6_heldIn 13 = .ok (.iaload, 1) := by decide +kernel
theorem dX6_heldIn_14 : decode cX6_heldIn 14 = .ok (.iaload, 1) := by decide +kernel
theorem dX6_heldIn_15 : decode cX6_heldIn 15 = .ok (.ireturn, 1) := by decide +kernel
theorem dX6_hold_0 : decode cX6_hold 0 = .ok (.aload_n 0, 1) := by decide +kernel
theorem dX6_hold_1 : decode cX6_hold 1 = .ok (.getfield 11, 3) := by decide +kernel
theorem dX6_hold_4 : decode cX6_hold 4 = .ok (.getstatic 28, 3) := by decide +kernel
theorem dX6_hold_7 : decode cX6_hold 7 = .ok (.bipush 16, 2) := by decide +kernel
theorem dX6_hold_9 : decode cX6_hold 9 = .ok (.iload_n 1, 1) := by decide +kernel
theorem dX6_hold_10 : decode cX6_hold 10 = .ok (.imul, 1) := by decide +kernel
theorem dX6_hold_11 : decode cX6_hold 11 = .ok (.iload_n 2, 1) := by decide +kernel
theorem dX6_hold_12 : decode cX6_hold 12 = .ok (.iadd, 1) := by decide +kernel
theorem dX6_hold_13 : decode cX6_hold 13 = .ok (.iaload, 1) := by decide +kernel
theorem dX6_hold_14 : decode cX6_hold 14 = .ok (.iload_n 3, 1) := by decide +kernel
theorem dX6_hold_15 : decode cX6_hold 15 = .ok (.iastore, 1) := by decide +kernel
theorem dX6_hold_16 : decode cX6_hold 16 = .ok (.return_, 1) := by decide +kernel
theorem dX6_read_0 : decode cX6_read 0 = .ok (.iload_n 1, 1) := by decide +kernel
theorem dX6_read_1 : decode cX6_read 1 = .ok (.bipush 15, 2) := by decide +kernel
theorem dX6_read_3 : decode cX6_read 3 = .ok (.if_icmp .ne 22, 3) := by decide +kernel
theorem dX6_read_6 : decode cX6_read 6 = .ok (.aload_n 0, 1) := by decide +kernel
theorem dX6_read_7 : decode cX6_read 7 = .ok (.getfield 25, 3) := by decide +kernel
theorem dX6_read_10 : decode cX6_read 10 = .ok (.aload_n 0, 1) := by decide +kernel
theorem dX6_read_11 : decode cX6_read 11 = .ok (.invokevirtual 31, 3) := by decide +kernel
theorem dX6_read_14 : decode cX6_read 14 = .ok (.ifCond .eq 7, 3) := by decide +kernel
theorem dX6_read_17 : decode cX6_read 17 = .ok (.iconst 4, 1) := by decide +kernel
theorem dX6_read_18 : decode cX6_read 18 = .ok (.goto 5, 3) := by decide +kernel
theorem dX6_read_21 : decode cX6_read 21 = .ok (.bipush 8, 2) := by decide +kernel
theorem dX6_read_23 : decode cX6_read 23 = .ok (.iadd, 1) := by decide +kernel
theorem dX6_read_24 : decode cX6_read 24 = .ok (.ireturn, 1) := by decide +kernel
theorem dX6_read_25 : decode cX6_read 25 = .ok (.aload_n 0, 1) := by decide +kernel
theorem dX6_read_26 : decode cX6_read 26 = .ok (.getfield 11, 3) := by decide +kernel
theorem dX6_read_29 : decode cX6_read 29 = .ok (.getstatic 28, 3) := by decide +kernel
theorem dX6_read_32 : decode cX6_read 32 = .ok (.bipush 16, 2) := by decide +kernel
theorem dX6_read_34 : decode cX6_read 34 = .ok (.aload_n 0, 1) := by decide +kernel
theorem dX6_read_35 : decode cX6_read 35 = .ok (.getfield 22, 3) := by decide +kernel
theorem dX6_read_38 : decode cX6_read 38 = .ok (.imul, 1) := by decide +kernel
theorem dX6_read_39 : decode cX6_read 39 = .ok (.iload_n 1, 1) := by decide +kernel
theorem dX6_read_40 : decode cX6_read 40 = .ok (.iadd, 1) := by decide +kernel
theorem dX6_read_41 : decode cX6_read 41 = .ok (.iaload, 1) := by decide +kernel
theorem dX6_read_42 : decode cX6_read 42 = .ok (.iaload, 1) := by decide +kernel
theorem dX6_read_43 : decode cX6_read 43 = .ok (.ireturn, 1) := by decide +kernel
theorem dX6_readLate_0 : decode cX6_readLate 0 = .ok (.aload_n 0, 1) := by decide +kernel
theorem dX6_readLate_1 : decode cX6_readLate 1 = .ok (.aload_n 0, 1) := by decide +kernel
theorem dX6_readLate_2 : decode cX6_readLate 2 = .ok (.getfield 22, 3) := by decide +kernel
theorem dX6_readLate_5 : decode cX6_readLate 5 = .ok (.iload_n 1, 1) := by decide +kernel
theorem dX6_readLate_6 : decode cX6_readLate 6 = .ok (.invokevirtual 35, 3) := by decide +kernel
theorem dX6_readLate_9 : decode cX6_readLate 9 = .ok (.ireturn, 1) := by decide +kernel
theorem dX6_readLateIn_0 : decode cX6_readLateIn 0 = .ok (.iload_n 2, 1) := by decide +kernel
theorem dX6_readLateIn_1 : decode cX6_readLateIn 1 = .ok (.bipush 15, 2) := by decide +kernel
theorem dX6_readLateIn_3 : decode cX6_readLateIn 3 = .ok (.if_icmp .ne 13, 3) := by decide +kernel
theorem dX6_readLateIn_6 : decode cX6_readLateIn 6 = .ok (.aload_n 0, 1) := by decide +kernel
theorem dX6_readLateIn_7 : decode cX6_readLateIn 7 = .ok (.getfield 25, 3) := by decide +kernel
theorem dX6_readLateIn_10 : decode cX6_readLateIn 10 = .ok (.bipush 12, 2) := by decide +kernel
theorem dX6_readLateIn_12 : decode cX6_readLateIn 12 = .ok (.iadd, 1) := by decide +kernel
theorem dX6_readLateIn_13 : decode cX6_readLateIn 13 = .ok (.goto 18, 3) := by decide +kernel
theorem dX6_readLateIn_16 : decode cX6_readLateIn 16 = .ok (.aload_n 0, 1) := by decide +kernel
theorem dX6_readLateIn_17 : decode cX6_readLateIn 17 = .ok (.getfield 11, 3) := by decide +kernel
theorem dX6_readLateIn_20 : decode cX6_readLateIn 20 = .ok (.getstatic 28, 3) := by decide +kernel
theorem dX6_readLateIn_23 : decode cX6_readLateIn 23 = .ok (.bipush 16, 2) := by decide +kernel
theorem dX6_readLateIn_25 : decode cX6_readLateIn 25 = .ok (.iload_n 1, 1) := by decide +kernel
theorem dX6_readLateIn_26 : decode cX6_readLateIn 26 = .ok (.imul, 1) := by decide +kernel
theorem dX6_readLateIn_27 : decode cX6_readLateIn 27 = .ok (.iload_n 2, 1) := by decide +kernel
theorem dX6_readLateIn_28 : decode cX6_readLateIn 28 = .ok (.iadd, 1) := by decide +kernel
theorem dX6_readLateIn_29 : decode cX6_readLateIn 29 = .ok (.iaload, 1) := by decide +kernel
theorem dX6_readLateIn_30 : decode cX6_readLateIn 30 = .ok (.iaload, 1) := by decide +kernel
theorem dX6_readLateIn_31 : decode cX6_readLateIn 31 = .ok (.ireturn, 1) := by decide +kernel
theorem dX6_write_0 : decode cX6_write 0 = .ok (.iload_n 1, 1) := by decide +kernel
theorem dX6_write_1 : decode cX6_write 1 = .ok (.bipush 15, 2) := by decide +kernel
theorem dX6_write_3 : decode cX6_write 3 = .ok (.if_icmp .ne 11, 3) := by decide +kernel
theorem dX6_write_6 : decode cX6_write 6 = .ok (.aload_n 0, 1) := by decide +kernel
theorem dX6_write_7 : decode cX6_write 7 = .ok (.iload_n 2, 1) := by decide +kernel
theorem dX6_write_8 : decode cX6_write 8 = .ok (.invokevirtual 39, 3) := by decide +kernel
theorem dX6_write_11 : decode cX6_write 11 = .ok (.goto 13, 3) := by decide +kernel
theorem dX6_write_14 : decode cX6_write 14 = .ok (.aload_n 0, 1) := by decide +kernel
theorem dX6_write_15 : decode cX6_write 15 = .ok (.aload_n 0, 1) := by decide +kernel
theorem dX6_write_16 : decode cX6_write 16 = .ok (.getfield 22, 3) := by decide +kernel
theorem dX6_write_19 : decode cX6_write 19 = .ok (.iload_n 1, 1) := by decide +kernel
theorem dX6_write_20 : decode cX6_write 20 = .ok (.iload_n 2, 1) := by decide +kernel
theorem dX6_write_21 : decode cX6_write 21 = .ok (.invokevirtual 43, 3) := by decide +kernel
theorem dX6_write_24 : decode cX6_write 24 = .ok (.return_, 1) := by decide +kernel
theorem dX6_bank_0 : decode cX6_bank 0 = .ok (.aload_n 0, 1) := by decide +kernel
theorem dX6_bank_1 : decode cX6_bank 1 = .ok (.getfield 22, 3) := by decide +kernel
theorem dX6_bank_4 : decode cX6_bank 4 = .ok (.ireturn, 1) := by decide +kernel
theorem dX6_next_0 : decode cX6_next 0 = .ok (.aload_n 0, 1) := by decide +kernel
theorem dX6_next_1 : decode cX6_next 1 = .ok (.getfield 11, 3) := by decide +kernel
theorem dX6_next_4 : decode cX6_next 4 = .ok (.bipush 15, 2) := by decide +kernel
theorem dX6_next_6 : decode cX6_next 6 = .ok (.iaload, 1) := by decide +kernel
theorem dX6_next_7 : decode cX6_next 7 = .ok (.ireturn, 1) := by decide +kernel
theorem dX6_jump_0 : decode cX6_jump 0 = .ok (.aload_n 0, 1) := by decide +kernel
theorem dX6_jump_1 : decode cX6_jump 1 = .ok (.getfield 11, 3) := by decide +kernel
theorem dX6_jump_4 : decode cX6_jump 4 = .ok (.bipush 15, 2) := by decide +kernel
theorem dX6_jump_6 : decode cX6_jump 6 = .ok (.iload_n 1, 1) := by decide +kernel
theorem dX6_jump_7 : decode cX6_jump 7 = .ok (.aload_n 0, 1) := by decide +kernel
theorem dX6_jump_8 : decode cX6_jump 8 = .ok (.invokevirtual 31, 3) := by decide +kernel
theorem dX6_jump_11 : decode cX6_jump 11 = .ok (.ifCond .eq 8, 3) := by decide +kernel
theorem dX6_jump_14 : decode cX6_jump 14 = .ok (.bipush (-2), 2) := by decide +kernel
theorem dX6_jump_16 : decode cX6_jump 16 = .ok (.goto 5, 3) := by decide +kernel
theorem dX6_jump_19 : decode cX6_jump 19 = .ok (.bipush (-4), 2) := by decide +kernel
theorem dX6_jump_21 : decode cX6_jump 21 = .ok (.iand, 1) := by decide +kernel
theorem dX6_jump_22 : decode cX6_jump 22 = .ok (.iastore, 1) := by decide +kernel
theorem dX6_jump_23 : decode cX6_jump 23 = .ok (.return_, 1) := by decide +kernel
theorem dX6_jumpAndChangeSet_0 : decode cX6_jumpAndChangeSet 0 = .ok (.aload_n 0, 1) := by decide +kernel
theorem dX6_jumpAndChangeSet_1 : decode cX6_jumpAndChangeSet 1 = .ok (.aload_n 0, 1) := by decide +kernel
theorem dX6_jumpAndChangeSet_2 : decode cX6_jumpAndChangeSet 2 = .ok (.getfield 18, 3) := by decide +kernel
theorem dX6_jumpAndChangeSet_5 : decode cX6_jumpAndChangeSet 5 = .ok (.bipush (-33), 2) := by decide +kernel
theorem dX6_jumpAndChangeSet_7 : decode cX6_jumpAndChangeSet 7 = .ok (.iand, 1) := by decide +kernel
theorem dX6_jumpAndChangeSet_8 : decode cX6_jumpAndChangeSet 8 = .ok (.iload_n 1, 1) := by decide +kernel
theorem dX6_jumpAndChangeSet_9 : decode cX6_jumpAndChangeSet 9 = .ok (.iconst 1, 1) := by decide +kernel
theorem dX6_jumpAndChangeSet_10 : decode cX6_jumpAndChangeSet 10 = .ok (.iand, 1) := by decide +kernel
theorem dX6_jumpAndChangeSet_11 : decode cX6_jumpAndChangeSet 11 = .ok (.ifCond .eq 8, 3) := by decide +kernel
theorem dX6_jumpAndChangeSet_14 : decode cX6_jumpAndChangeSet 14 = .ok (.bipush 32, 2) := by decide +kernel
theorem dX6_jumpAndChangeSet_16 : decode cX6_jumpAndChangeSet 16 = .ok (.goto 4, 3) := by decide +kernel
theorem dX6_jumpAndChangeSet_19 : decode cX6_jumpAndChangeSet 19 = .ok (.iconst 0, 1) := by decide +kernel
theorem dX6_jumpAndChangeSet_20 : decode cX6_jumpAndChangeSet 20 = .ok (.ior, 1) := by decide +kernel
theorem dX6_jumpAndChangeSet_21 : decode cX6_jumpAndChangeSet 21 = .ok (.putfield 18, 3) := by decide +kernel
theorem dX6_jumpAndChangeSet_24 : decode cX6_jumpAndChangeSet 24 = .ok (.aload_n 0, 1) := by decide +kernel
theorem dX6_jumpAndChangeSet_25 : decode cX6_jumpAndChangeSet 25 = .ok (.iload_n 1, 1) := by decide +kernel
theorem dX6_jumpAndChangeSet_26 : decode cX6_jumpAndChangeSet 26 = .ok (.invokevirtual 39, 3) := by decide +kernel
theorem dX6_jumpAndChangeSet_29 : decode cX6_jumpAndChangeSet 29 = .ok (.return_, 1) := by decide +kernel
theorem dX6_here_0 : decode cX6_here 0 = .ok (.aload_n 0, 1) := by decide +kernel
theorem dX6_here_1 : decode cX6_here 1 = .ok (.getfield 25, 3) := by decide +kernel
theorem dX6_here_4 : decode cX6_here 4 = .ok (.ireturn, 1) := by decide +kernel
theorem dX6_behind_0 : decode cX6_behind 0 = .ok (.aload_n 0, 1) := by decide +kernel
theorem dX6_behind_1 : decode cX6_behind 1 = .ok (.getfield 25, 3) := by decide +kernel
theorem dX6_behind_4 : decode cX6_behind 4 = .ok (.aload_n 0, 1) := by decide +kernel
theorem dX6_behind_5 : decode cX6_behind 5 = .ok (.invokevirtual 31, 3) := by decide +kernel
theorem dX6_behind_8 : decode cX6_behind 8 = .ok (.ifCond .eq 7, 3) := by decide +kernel
theorem dX6_behind_11 : decode cX6_behind 11 = .ok (.iconst 2, 1) := by decide +kernel
theorem dX6_behind_12 : decode cX6_behind 12 = .ok (.goto 4, 3) := by decide +kernel
theorem dX6_behind_15 : decode cX6_behind 15 = .ok (.iconst 4, 1) := by decide +kernel
theorem dX6_behind_16 : decode cX6_behind 16 = .ok (.iadd, 1) := by decide +kernel
theorem dX6_behind_17 : decode cX6_behind 17 = .ok (.ireturn, 1) := by decide +kernel
theorem dX6_begin_0 : decode cX6_begin 0 = .ok (.aload_n 0, 1) := by decide +kernel
theorem dX6_begin_1 : decode cX6_begin 1 = .ok (.aload_n 0, 1) := by decide +kernel
theorem dX6_begin_2 : decode cX6_begin 2 = .ok (.getfield 11, 3) := by decide +kernel
theorem dX6_begin_5 : decode cX6_begin 5 = .ok (.bipush 15, 2) := by decide +kernel
theorem dX6_begin_7 : decode cX6_begin 7 = .ok (.iaload, 1) := by decide +kernel
theorem dX6_begin_8 : decode cX6_begin 8 = .ok (.putfield 25, 3) := by decide +kernel
theorem dX6_begin_11 : decode cX6_begin 11 = .ok (.aload_n 0, 1) := by decide +kernel
theorem dX6_begin_12 : decode cX6_begin 12 = .ok (.getfield 11, 3) := by decide +kernel
theorem dX6_begin_15 : decode cX6_begin 15 = .ok (.bipush 15, 2) := by decide +kernel
theorem dX6_begin_17 : decode cX6_begin 17 = .ok (.aload_n 0, 1) := by decide +kernel
theorem dX6_begin_18 : decode cX6_begin 18 = .ok (.invokevirtual 47, 3) := by decide +kernel
theorem dX6_begin_21 : decode cX6_begin 21 = .ok (.iastore, 1) := by decide +kernel
theorem dX6_begin_22 : decode cX6_begin 22 = .ok (.return_, 1) := by decide +kernel
theorem dX6_cpsr_0 : decode cX6_cpsr 0 = .ok (.aload_n 0, 1) := by decide +kernel
theorem dX6_cpsr_1 : decode cX6_cpsr 1 = .ok (.getfield 18, 3) := by decide +kernel
theorem dX6_cpsr_4 : decode cX6_cpsr 4 = .ok (.ireturn, 1) := by decide +kernel
theorem dX6_changeCpsr_0 : decode cX6_changeCpsr 0 = .ok (.iload_n 1, 1) := by decide +kernel
theorem dX6_changeCpsr_1 : decode cX6_changeCpsr 1 = .ok (.bipush 31, 2) := by decide +kernel
theorem dX6_changeCpsr_3 : decode cX6_changeCpsr 3 = .ok (.iand, 1) := by decide +kernel
theorem dX6_changeCpsr_4 : decode cX6_changeCpsr 4 = .ok (.invokestatic 51, 3) := by decide +kernel
theorem dX6_changeCpsr_7 : decode cX6_changeCpsr 7 = .ok (.istore_n 2, 1) := by decide +kernel
theorem dX6_changeCpsr_8 : decode cX6_changeCpsr 8 = .ok (.iload_n 2, 1) := by decide +kernel
theorem dX6_changeCpsr_9 : decode cX6_changeCpsr 9 = .ok (.iconst (-1), 1) := by decide +kernel
theorem dX6_changeCpsr_10 : decode cX6_changeCpsr 10 = .ok (.if_icmp .ne 25, 3) := by decide +kernel
theorem dX6_changeCpsr_13 : decode cX6_changeCpsr 13 = .ok (.aload_n 0, 1) := by decide +kernel
theorem dX6_changeCpsr_14 : decode cX6_changeCpsr 14 = .ok (.iload_n 1, 1) := by decide +kernel
