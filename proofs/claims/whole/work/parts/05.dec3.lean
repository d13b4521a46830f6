theorem dX11_operate_105 : decode cX11_operate 105 = .ok (.iload_n 2, 1) := by decide +kernel
theorem dX11_operate_106 : decode cX11_operate 106 = .ok (.iload_n 3, 1) := by decide +kernel
theorem dX11_operate_107 : decode cX11_operate 107 = .ok (.iconst 0, 1) := by decide +kernel
theorem dX11_operate_108 : decode cX11_operate 108 = .ok (.invokevirtual 150, 3) := by decide +kernel
theorem dX11_operate_111 : decode cX11_operate 111 = .ok (.ireturn, 1) := by decide +kernel
theorem dX11_operate_112 : decode cX11_operate 112 = .ok (.aload_n 0, 1) := by decide +kernel
theorem dX11_operate_113 : decode cX11_operate 113 = .ok (.iload_n 2, 1) := by decide +kernel
theorem dX11_operate_114 : decode cX11_operate 114 = .ok (.iload_n 3, 1) := by decide +kernel
theorem dX11_operate_115 : decode cX11_operate 115 = .ok (.aload_n 0, 1) := by decide +kernel
theorem dX11_operate_116 : decode cX11_operate 116 = .ok (.invokevirtual 153, 3) := by decide +kernel
theorem dX11_operate_119 : decode cX11_operate 119 = .ok (.invokevirtual 150, 3) := by decide +kernel
theorem dX11_operate_122 : decode cX11_operate 122 = .ok (.ireturn, 1) := by decide +kernel
theorem dX11_operate_123 : decode cX11_operate 123 = .ok (.aload_n 0, 1) := by decide +kernel
theorem dX11_operate_124 : decode cX11_operate 124 = .ok (.iload_n 2, 1) := by decide +kernel
theorem dX11_operate_125 : decode cX11_operate 125 = .ok (.iload_n 3, 1) := by decide +kernel
theorem dX11_operate_126 : decode cX11_operate 126 = .ok (.iconst (-1), 1) := by decide +kernel
theorem dX11_operate_127 : decode cX11_operate 127 = .ok (.ixor, 1) := by decide +kernel
theorem dX11_operate_128 : decode cX11_operate 128 = .ok (.aload_n 0, 1) := by decide +kernel
theorem dX11_operate_129 : decode cX11_operate 129 = .ok (.invokevirtual 153, 3) := by decide +kernel
theorem dX11_operate_132 : decode cX11_operate 132 = .ok (.invokevirtual 150, 3) := by decide +kernel
theorem dX11_operate_135 : decode cX11_operate 135 = .ok (.ireturn, 1) := by decide +kernel
theorem dX11_operate_136 : decode cX11_operate 136 = .ok (.aload_n 0, 1) := by decide +kernel
theorem dX11_operate_137 : decode cX11_operate 137 = .ok (.iload_n 3, 1) := by decide +kernel
theorem dX11_operate_138 : decode cX11_operate 138 = .ok (.iload_n 2, 1) := by decide +kernel
theorem dX11_operate_139 : decode cX11_operate 139 = .ok (.iconst (-1), 1) := by decide +kernel
theorem dX11_operate_140 : decode cX11_operate 140 = .ok (.ixor, 1) := by decide +kernel
theorem dX11_operate_141 : decode cX11_operate 141 = .ok (.aload_n 0, 1) := by decide +kernel
theorem dX11_operate_142 : decode cX11_operate 142 = .ok (.invokevirtual 153, 3) := by decide +kernel
theorem dX11_operate_145 : decode cX11_operate 145 = .ok (.invokevirtual 150, 3) := by decide +kernel
theorem dX11_operate_148 : decode cX11_operate 148 = .ok (.ireturn, 1) := by decide +kernel
theorem dX11_operate_149 : decode cX11_operate 149 = .ok (.iload_n 2, 1) := by decide +kernel
theorem dX11_operate_150 : decode cX11_operate 150 = .ok (.iload_n 3, 1) := by decide +kernel
theorem dX11_operate_151 : decode cX11_operate 151 = .ok (.iand, 1) := by decide +kernel
theorem dX11_operate_152 : decode cX11_operate 152 = .ok (.ireturn, 1) := by decide +kernel
theorem dX11_operate_153 : decode cX11_operate 153 = .ok (.iload_n 2, 1) := by decide +kernel
theorem dX11_operate_154 : decode cX11_operate 154 = .ok (.iload_n 3, 1) := by decide +kernel
theorem dX11_operate_155 : decode cX11_operate 155 = .ok (.ixor, 1) := by decide +kernel
theorem dX11_operate_156 : decode cX11_operate 156 = .ok (.ireturn, 1) := by decide +kernel
theorem dX11_operate_157 : decode cX11_operate 157 = .ok (.aload_n 0, 1) := by decide +kernel
theorem dX11_operate_158 : decode cX11_operate 158 = .ok (.iload_n 2, 1) := by decide +kernel
theorem dX11_operate_159 : decode cX11_operate 159 = .ok (.iload_n 3, 1) := by decide +kernel
theorem dX11_operate_160 : decode cX11_operate 160 = .ok (.iconst (-1), 1) := by decide +kernel
theorem dX11_operate_161 : decode cX11_operate 161 = .ok (.ixor, 1) := by decide +kernel
theorem dX11_operate_162 : decode cX11_operate 162 = .ok (.iconst 1, 1) := by decide +kernel
theorem dX11_operate_163 : decode cX11_operate 163 = .ok (.invokevirtual 150, 3) := by decide +kernel
theorem dX11_operate_166 : decode cX11_operate 166 = .ok (.ireturn, 1) := by decide +kernel
theorem dX11_operate_167 : decode cX11_operate 167 = .ok (.aload_n 0, 1) := by decide +kernel
theorem dX11_operate_168 : decode cX11_operate 168 = .ok (.iload_n 2, 1) := by decide +kernel
theorem dX11_operate_169 : decode cX11_operate 169 = .ok (.iload_n 3, 1) := by decide +kernel
theorem dX11_operate_170 : decode cX11_operate 170 = .ok (.iconst 0, 1) := by decide +kernel
theorem dX11_operate_171 : decode cX11_operate 171 = .ok (.invokevirtual 150, 3) := by decide +kernel
theorem dX11_operate_174 : decode cX11_operate 174 = .ok (.ireturn, 1) := by decide +kernel
theorem dX11_operate_175 : decode cX11_operate 175 = .ok (.iload_n 2, 1) := by decide +kernel
theorem dX11_operate_176 : decode cX11_operate 176 = .ok (.iload_n 3, 1) := by decide +kernel
theorem dX11_operate_177 : decode cX11_operate 177 = .ok (.ior, 1) := by decide +kernel
theorem dX11_operate_178 : decode cX11_operate 178 = .ok (.ireturn, 1) := by decide +kernel
theorem dX11_operate_179 : decode cX11_operate 179 = .ok (.iload_n 3, 1) := by decide +kernel
theorem dX11_operate_180 : decode cX11_operate 180 = .ok (.ireturn, 1) := by decide +kernel
theorem dX11_operate_181 : decode cX11_operate 181 = .ok (.iload_n 2, 1) := by decide +kernel
theorem dX11_operate_182 : decode cX11_operate 182 = .ok (.iload_n 3, 1) := by decide +kernel
theorem dX11_operate_183 : decode cX11_operate 183 = .ok (.iconst (-1), 1) := by decide +kernel
theorem dX11_operate_184 : decode cX11_operate 184 = .ok (.ixor, 1) := by decide +kernel
theorem dX11_operate_185 : decode cX11_operate 185 = .ok (.iand, 1) := by decide +kernel
theorem dX11_operate_186 : decode cX11_operate 186 = .ok (.ireturn, 1) := by decide +kernel
theorem dX11_operate_187 : decode cX11_operate 187 = .ok (.iload_n 3, 1) := by decide +kernel
theorem dX11_operate_188 : decode cX11_operate 188 = .ok (.iconst (-1), 1) := by decide +kernel
theorem dX11_operate_189 : decode cX11_operate 189 = .ok (.ixor, 1) := by decide +kernel
theorem dX11_operate_190 : decode cX11_operate 190 = .ok (.ireturn, 1) := by decide +kernel
theorem dX11_isSum_0 : decode cX11_isSum 0 = .ok (.iload_n 0, 1) := by decide +kernel
theorem dX11_isSum_1 : decode cX11_isSum 1 = .ok (.iconst 2, 1) := by decide +kernel
theorem dX11_isSum_2 : decode cX11_isSum 2 = .ok (.bipush 7, 2) := by decide +kernel
theorem dX11_isSum_4 : decode cX11_isSum 4 = .ok (.invokestatic 81, 3) := by decide +kernel
theorem dX11_isSum_7 : decode cX11_isSum 7 = .ok (.ifCond .ne 15, 3) := by decide +kernel
theorem dX11_isSum_10 : decode cX11_isSum 10 = .ok (.iload_n 0, 1) := by decide +kernel
theorem dX11_isSum_11 : decode cX11_isSum 11 = .ok (.bipush 10, 2) := by decide +kernel
theorem dX11_isSum_13 : decode cX11_isSum 13 = .ok (.if_icmp .eq 9, 3) := by decide +kernel
theorem dX11_isSum_16 : decode cX11_isSum 16 = .ok (.iload_n 0, 1) := by decide +kernel
theorem dX11_isSum_17 : decode cX11_isSum 17 = .ok (.bipush 11, 2) := by decide +kernel
theorem dX11_isSum_19 : decode cX11_isSum 19 = .ok (.if_icmp .ne 7, 3) := by decide +kernel
theorem dX11_isSum_22 : decode cX11_isSum 22 = .ok (.iconst 1, 1) := by decide +kernel
theorem dX11_isSum_23 : decode cX11_isSum 23 = .ok (.goto 4, 3) := by decide +kernel
theorem dX11_isSum_26 : decode cX11_isSum 26 = .ok (.iconst 0, 1) := by decide +kernel
theorem dX11_isSum_27 : decode cX11_isSum 27 = .ok (.ireturn, 1) := by decide +kernel
theorem dX11_finish_0 : decode cX11_finish 0 = .ok (.aload_n 0, 1) := by decide +kernel
theorem dX11_finish_1 : decode cX11_finish 1 = .ok (.iload_n 1, 1) := by decide +kernel
theorem dX11_finish_2 : decode cX11_finish 2 = .ok (.iload_n 3, 1) := by decide +kernel
theorem dX11_finish_3 : decode cX11_finish 3 = .ok (.iload 4, 2) := by decide +kernel
theorem dX11_finish_5 : decode cX11_finish 5 = .ok (.invokevirtual 156, 3) := by decide +kernel
theorem dX11_finish_8 : decode cX11_finish 8 = .ok (.istore 6, 2) := by decide +kernel
theorem dX11_finish_10 : decode cX11_finish 10 = .ok (.iload 5, 2) := by decide +kernel
theorem dX11_finish_12 : decode cX11_finish 12 = .ok (.ifCond .eq 32, 3) := by decide +kernel
theorem dX11_finish_15 : decode cX11_finish 15 = .ok (.aload_n 0, 1) := by decide +kernel
theorem dX11_finish_16 : decode cX11_finish 16 = .ok (.iload 6, 2) := by decide +kernel
theorem dX11_finish_18 : decode cX11_finish 18 = .ok (.invokevirtual 159, 3) := by decide +kernel
theorem dX11_finish_21 : decode cX11_finish 21 = .ok (.aload_n 0, 1) := by decide +kernel
theorem dX11_finish_22 : decode cX11_finish 22 = .ok (.aload_n 0, 1) := by decide +kernel
theorem dX11_finish_23 : decode cX11_finish 23 = .ok (.getfield 138, 3) := by decide +kernel
theorem dX11_finish_26 : decode cX11_finish 26 = .ok (.invokevirtual 162, 3) := by decide +kernel
theorem dX11_finish_29 : decode cX11_finish 29 = .ok (.iload_n 1, 1) := by decide +kernel
theorem dX11_finish_30 : decode cX11_finish 30 = .ok (.invokestatic 166, 3) := by decide +kernel
theorem dX11_finish_33 : decode cX11_finish 33 = .ok (.ifCond .eq 11, 3) := by decide +kernel
theorem dX11_finish_36 : decode cX11_finish 36 = .ok (.aload_n 0, 1) := by decide +kernel
theorem dX11_finish_37 : decode cX11_finish 37 = .ok (.aload_n 0, 1) := by decide +kernel
theorem dX11_finish_38 : decode cX11_finish 38 = .ok (.getfield 147, 3) := by decide +kernel
theorem dX11_finish_41 : decode cX11_finish 41 = .ok (.invokevirtual 169, 3) := by decide +kernel
theorem dX11_finish_44 : decode cX11_finish 44 = .ok (.iload_n 1, 1) := by decide +kernel
theorem dX11_finish_45 : decode cX11_finish 45 = .ok (.bipush 8, 2) := by decide +kernel
theorem dX11_finish_47 : decode cX11_finish 47 = .ok (.if_icmp .lt 9, 3) := by decide +kernel
theorem dX11_finish_50 : decode cX11_finish 50 = .ok (.iload_n 1, 1) := by decide +kernel
theorem dX11_finish_51 : decode cX11_finish 51 = .ok (.bipush 11, 2) := by decide +kernel
theorem dX11_finish_53 : decode cX11_finish 53 = .ok (.if_icmp .le 10, 3) := by decide +kernel
theorem dX11_finish_56 : decode cX11_finish 56 = .ok (.aload_n 0, 1) := by decide +kernel
theorem dX11_finish_57 : decode cX11_finish 57 = .ok (.iload_n 2, 1) := by decide +kernel
theorem dX11_finish_58 : decode cX11_finish 58 = .ok (.iload 6, 2) := by decide +kernel
theorem dX11_finish_60 : decode cX11_finish 60 = .ok (.invokevirtual 135, 3) := by decide +kernel
theorem dX11_finish_63 : decode cX11_finish 63 = .ok (.return_, 1) := by decide +kernel
theorem dX11_data_0 : decode cX11_data 0 = .ok (.iload_n 1, 1) := by decide +kernel
theorem dX11_data_1 : decode cX11_data 1 = .ok (.bipush 21, 2) := by decide +kernel
theorem dX11_data_3 : decode cX11_data 3 = .ok (.ishr, 1) := by decide +kernel
theorem dX11_data_4 : decode cX11_data 4 = .ok (.bipush 15, 2) := by decide +kernel
theorem dX11_data_6 : decode cX11_data 6 = .ok (.iand, 1) := by decide +kernel
theorem dX11_data_7 : decode cX11_data 7 = .ok (.istore_n 2, 1) := by decide +kernel
theorem dX11_data_8 : decode cX11_data 8 = .ok (.iload_n 1, 1) := by decide +kernel
theorem dX11_data_9 : decode cX11_data 9 = .ok (.bipush 20, 2) := by decide +kernel
theorem dX11_data_11 : decode cX11_data 11 = .ok (.ishr, 1) := by decide +kernel
theorem dX11_data_12 : decode cX11_data 12 = .ok (.iconst 1, 1) := by decide +kernel
theorem dX11_data_13 : decode cX11_data 13 = .ok (.iand, 1) := by decide +kernel
theorem dX11_data_14 : decode cX11_data 14 = .ok (.iconst 1, 1) := by decide +kernel
theorem dX11_data_15 : decode cX11_data 15 = .ok (.if_icmp .ne 7, 3) := by decide +kernel
theorem dX11_data_18 : decode cX11_data 18 = .ok (.iconst 1, 1) := by decide +kernel
theorem dX11_data_19 : decode cX11_data 19 = .ok (.goto 4, 3) := by decide +kernel
theorem dX11_data_22 : decode cX11_data 22 = .ok (.iconst 0, 1) := by decide +kernel
theorem dX11_data_23 : decode cX11_data 23 = .ok (.istore_n 3, 1) := by decide +kernel
theorem dX11_data_24 : decode cX11_data 24 = .ok (.iload_n 1, 1) := by decide +kernel
theorem dX11_data_25 : decode cX11_data 25 = .ok (.bipush 25, 2) := by decide +kernel
theorem dX11_data_27 : decode cX11_data 27 = .ok (.ishr, 1) := by decide +kernel
theorem dX11_data_28 : decode cX11_data 28 = .ok (.iconst 1, 1) := by decide +kernel
theorem dX11_data_29 : decode cX11_data 29 = .ok (.iand, 1) := by decide +kernel
theorem dX11_data_30 : decode cX11_data 30 = .ok (.iconst 1, 1) := by decide +kernel
theorem dX11_data_31 : decode cX11_data 31 = .ok (.if_icmp .ne 7, 3) := by decide +kernel
theorem dX11_data_34 : decode cX11_data 34 = .ok (.iconst 1, 1) := by decide +kernel
theorem dX11_data_35 : decode cX11_data 35 = .ok (.goto 4, 3) := by decide +kernel
theorem dX11_data_38 : decode cX11_data 38 = .ok (.iconst 0, 1) := by decide +kernel
theorem dX11_data_39 : decode cX11_data 39 = .ok (.istore 4, 2) := by decide +kernel
theorem dX11_data_41 : decode cX11_data 41 = .ok (.iload 4, 2) := by decide +kernel
theorem dX11_data_43 : decode cX11_data 43 = .ok (.ifCond .ne 16, 3) := by decide +kernel
theorem dX11_data_46 : decode cX11_data 46 = .ok (.iload_n 1, 1) := by decide +kernel
theorem dX11_data_47 : decode cX11_data 47 = .ok (.iconst 4, 1) := by decide +kernel
theorem dX11_data_48 : decode cX11_data 48 = .ok (.ishr, 1) := by decide +kernel
theorem dX11_data_49 : decode cX11_data 49 = .ok (.iconst 1, 1) := by decide +kernel
theorem dX11_data_50 : decode cX11_data 50 = .ok (.iand, 1) := by decide +kernel
theorem dX11_data_51 : decode cX11_data 51 = .ok (.iconst 1, 1) := by decide +kernel
theorem dX11_data_52 : decode cX11_data 52 = .ok (.if_icmp .ne 7, 3) := by decide +kernel
theorem dX11_data_55 : decode cX11_data 55 = .ok (.iconst 1, 1) := by decide +kernel
theorem dX11_data_56 : decode cX11_data 56 = .ok (.goto 4, 3) := by decide +kernel
theorem dX11_data_59 : decode cX11_data 59 = .ok (.iconst 0, 1) := by decide +kernel
theorem dX11_data_60 : decode cX11_data 60 = .ok (.istore 5, 2) := by decide +kernel
theorem dX11_data_62 : decode cX11_data 62 = .ok (.iload_n 2, 1) := by decide +kernel
theorem dX11_data_63 : decode cX11_data 63 = .ok (.bipush 8, 2) := by decide +kernel
theorem dX11_data_65 : decode cX11_data 65 = .ok (.bipush 11, 2) := by decide +kernel
theorem dX11_data_67 : decode cX11_data 67 = .ok (.invokestatic 81, 3) := by decide +kernel
theorem dX11_data_70 : decode cX11_data 70 = .ok (.ifCond .eq 7, 3) := by decide +kernel
theorem dX11_data_73 : decode cX11_data 73 = .ok (.iload_n 3, 1) := by decide +kernel
theorem dX11_data_74 : decode cX11_data 74 = .ok (.ifCond .eq 18, 3) := by decide +kernel
theorem dX11_data_77 : decode cX11_data 77 = .ok (.iload 5, 2) := by decide +kernel
theorem dX11_data_79 : decode cX11_data 79 = .ok (.ifCond .eq 18, 3) := by decide +kernel
theorem dX11_data_82 : decode cX11_data 82 = .ok (.iload_n 1, 1) := by decide +kernel
theorem dX11_data_83 : decode cX11_data 83 = .ok (.bipush 7, 2) := by decide +kernel
theorem dX11_data_85 : decode cX11_data 85 = .ok (.ishr, 1) := by decide +kernel
theorem dX11_data_86 : decode cX11_data 86 = .ok (.iconst 1, 1) := by decide +kernel
theorem dX11_data_87 : decode cX11_data 87 = .ok (.iand, 1) := by decide +kernel
theorem dX11_data_88 : decode cX11_data 88 = .ok (.iconst 1, 1) := by decide +kernel
theorem dX11_data_89 : decode cX11_data 89 = .ok (.if_icmp .ne 8, 3) := by decide +kernel
theorem dX11_data_92 : decode cX11_data 92 = .ok (.aload_n 0, 1) := by decide +kernel
theorem dX11_data_93 : decode cX11_data 93 = .ok (.invokevirtual 172, 3) := by decide +kernel
theorem dX11_data_96 : decode cX11_data 96 = .ok (.return_, 1) := by decide +kernel
theorem dX11_data_97 : decode cX11_data 97 = .ok (.iload 5, 2) := by decide +kernel
theorem dX11_data_99 : decode cX11_data 99 = .ok (.ifCond .eq 8, 3) := by decide +kernel
theorem dX11_data_102 : decode cX11_data 102 = .ok (.bipush 12, 2) := by decide +kernel
theorem dX11_data_104 : decode cX11_data 104 = .ok (.goto 5, 3) := by decide +kernel
theorem dX11_data_107 : decode cX11_data 107 = .ok (.bipush 8, 2) := by decide +kernel
theorem dX11_data_109 : decode cX11_data 109 = .ok (.istore 6, 2) := by decide +kernel
theorem dX11_data_111 : decode cX11_data 111 = .ok (.iload_n 1, 1) := by decide +kernel
theorem dX11_data_112 : decode cX11_data 112 = .ok (.bipush 12, 2) := by decide +kernel
theorem dX11_data_114 : decode cX11_data 114 = .ok (.ishr, 1) := by decide +kernel
theorem dX11_data_115 : decode cX11_data 115 = .ok (.bipush 15, 2) := by decide +kernel
theorem dX11_data_117 : decode cX11_data 117 = .ok (.iand, 1) := by decide +kernel
theorem dX11_data_118 : decode cX11_data 118 = .ok (.istore 7, 2) := by decide +kernel
theorem dX11_data_120 : decode cX11_data 120 = .ok (.iload 4, 2) := by decide +kernel
theorem dX11_data_122 : decode cX11_data 122 = .ok (.ifCond .eq 11, 3) := by decide +kernel
theorem dX11_data_125 : decode cX11_data 125 = .ok (.aload_n 0, 1) := by decide +kernel
theorem dX11_data_126 : decode cX11_data 126 = .ok (.iload_n 1, 1) := by decide +kernel
theorem dX11_data_127 : decode cX11_data 127 = .ok (.invokevirtual 175, 3) := by decide +kernel
theorem dX11_data_130 : decode cX11_data 130 = .ok (.goto 73, 3) := by decide +kernel
theorem dX11_data_133 : decode cX11_data 133 = .ok (.iload 5, 2) := by decide +kernel
theorem dX11_data_135 : decode cX11_data 135 = .ok (.ifCond .eq 42, 3) := by decide +kernel
theorem dX11_data_138 : decode cX11_data 138 = .ok (.aload_n 0, 1) := by decide +kernel
theorem dX11_data_139 : decode cX11_data 139 = .ok (.iload_n 1, 1) := by decide +kernel
theorem dX11_data_140 : decode cX11_data 140 = .ok (.iconst 5, 1) := by decide +kernel
theorem dX11_data_141 : decode cX11_data 141 = .ok (.ishr, 1) := by decide +kernel
theorem dX11_data_142 : decode cX11_data 142 = .ok (.iconst 3, 1) := by decide +kernel
theorem dX11_data_143 : decode cX11_data 143 = .ok (.iand, 1) := by decide +kernel
theorem dX11_data_144 : decode cX11_data 144 = .ok (.aload_n 0, 1) := by decide +kernel
theorem dX11_data_145 : decode cX11_data 145 = .ok (.iload_n 1, 1) := by decide +kernel
theorem dX11_data_146 : decode cX11_data 146 = .ok (.bipush 15, 2) := by decide +kernel
theorem dX11_data_148 : decode cX11_data 148 = .ok (.iand, 1) := by decide +kernel
theorem dX11_data_149 : decode cX11_data 149 = .ok (.iload 6, 2) := by decide +kernel
theorem dX11_data_151 : decode cX11_data 151 = .ok (.invokevirtual 56, 3) := by decide +kernel
theorem dX11_data_154 : decode cX11_data 154 = .ok (.aload_n 0, 1) := by decide +kernel
theorem dX11_data_155 : decode cX11_data 155 = .ok (.iload_n 1, 1) := by decide +kernel
theorem dX11_data_156 : decode cX11_data 156 = .ok (.bipush 8, 2) := by decide +kernel
theorem dX11_data_158 : decode cX11_data 158 = .ok (.ishr, 1) := by decide +kernel
theorem dX11_data_159 : decode cX11_data 159 = .ok (.bipush 15, 2) := by decide +kernel
theorem dX11_data_161 : decode cX11_data 161 = .ok (.iand, 1) := by decide +kernel
theorem dX11_data_162 : decode cX11_data 162 = .ok (.iload 6, 2) := by decide +kernel
theorem dX11_data_164 : decode cX11_data 164 = .ok (.invokevirtual 56, 3) := by decide +kernel
theorem dX11_data_167 : decode cX11_data 167 = .ok (.sipush 255, 3) := by decide +kernel
theorem dX11_data_170 : decode cX11_data 170 = .ok (.iand, 1) := by decide +kernel
theorem dX11_data_171 : decode cX11_data 171 = .ok (.invokevirtual 141, 3) := by decide +kernel
theorem dX11_data_174 : decode cX11_data 174 = .ok (.goto 29, 3) := by decide +kernel
theorem dX11_data_177 : decode cX11_data 177 = .ok (.aload_n 0, 1) := by decide +kernel
theorem dX11_data_178 : decode cX11_data 178 = .ok (.iload_n 1, 1) := by decide +kernel
theorem dX11_data_179 : decode cX11_data 179 = .ok (.iconst 5, 1) := by decide +kernel
theorem dX11_data_180 : decode cX11_data 180 = .ok (.ishr, 1) := by decide +kernel
theorem dX11_data_181 : decode cX11_data 181 = .ok (.iconst 3, 1) := by decide +kernel
theorem dX11_data_182 : decode cX11_data 182 = .ok (.iand, 1) := by decide +kernel
theorem dX11_data_183 : decode cX11_data 183 = .ok (.aload_n 0, 1) := by decide +kernel
theorem dX11_data_184 : decode cX11_data 184 = .ok (.iload_n 1, 1) := by decide +kernel
theorem dX11_data_185 : decode cX11_data 185 = .ok (.bipush 15, 2) := by decide +kernel
theorem dX11_data_187 : decode cX11_data 187 = .ok (.iand, 1) := by decide +kernel
theorem dX11_data_188 : decode cX11_data 188 = .ok (.iload 6, 2) := by decide +kernel
theorem dX11_data_190 : decode cX11_data 190 = .ok (.invokevirtual 56, 3) := by decide +kernel
theorem dX11_data_193 : decode cX11_data 193 = .ok (.iload_n 1, 1) := by decide +kernel
theorem dX11_data_194 : decode cX11_data 194 = .ok (.bipush 7, 2) := by decide +kernel
theorem dX11_data_196 : decode cX11_data 196 = .ok (.ishr, 1) := by decide +kernel
theorem dX11_data_197 : decode cX11_data 197 = .ok (.bipush 31, 2) := by decide +kernel
theorem dX11_data_199 : decode cX11_data 199 = .ok (.iand, 1) := by decide +kernel
theorem dX11_data_200 : decode cX11_data 200 = .ok (.invokevirtual 178, 3) := by decide +kernel
theorem dX11_data_203 : decode cX11_data 203 = .ok (.istore 8, 2) := by decide +kernel
theorem dX11_data_205 : decode cX11_data 205 = .ok (.aload_n 0, 1) := by decide +kernel
theorem dX11_data_206 : decode cX11_data 206 = .ok (.iload_n 1, 1) := by decide +kernel
theorem dX11_data_207 : decode cX11_data 207 = .ok (.bipush 16, 2) := by decide +kernel
theorem dX11_data_209 : decode cX11_data 209 = .ok (.ishr, 1) := by decide +kernel
theorem dX11_data_210 : decode cX11_data 210 = .ok (.bipush 15, 2) := by decide +kernel
theorem dX11_data_212 : decode cX11_data 212 = .ok (.iand, 1) := by decide +kernel
theorem dX11_data_213 : decode cX11_data 213 = .ok (.iload 6, 2) := by decide +kernel
theorem dX11_data_215 : decode cX11_data 215 = .ok (.invokevirtual 56, 3) := by decide +kernel
theorem dX11_data_218 : decode cX11_data 218 = .ok (.istore 9, 2) := by decide +kernel
theorem dX11_data_220 : decode cX11_data 220 = .ok (.iload_n 3, 1) := by decide +kernel
theorem dX11_data_221 : decode cX11_data 221 = .ok (.ifCond .eq 58, 3) := by decide +kernel
theorem dX11_data_224 : decode cX11_data 224 = .ok (.iload 7, 2) := by decide +kernel
theorem dX11_data_226 : decode cX11_data 226 = .ok (.bipush 15, 2) := by decide +kernel
theorem dX11_data_228 : decode cX11_data 228 = .ok (.if_icmp .ne 51, 3) := by decide +kernel
theorem dX11_data_231 : decode cX11_data 231 = .ok (.iload_n 2, 1) := by decide +kernel
theorem dX11_data_232 : decode cX11_data 232 = .ok (.bipush 8, 2) := by decide +kernel
theorem dX11_data_234 : decode cX11_data 234 = .ok (.bipush 11, 2) := by decide +kernel
theorem dX11_data_236 : decode cX11_data 236 = .ok (.invokestatic 81, 3) := by decide +kernel
theorem dX11_data_239 : decode cX11_data 239 = .ok (.ifCond .ne 40, 3) := by decide +kernel
theorem dX11_data_242 : decode cX11_data 242 = .ok (.aload_n 0, 1) := by decide +kernel
theorem dX11_data_243 : decode cX11_data 243 = .ok (.iload_n 2, 1) := by decide +kernel
theorem dX11_data_244 : decode cX11_data 244 = .ok (.iload 9, 2) := by decide +kernel
theorem dX11_data_246 : decode cX11_data 246 = .ok (.iload 8, 2) := by decide +kernel
theorem dX11_data_248 : decode cX11_data 248 = .ok (.invokevirtual 156, 3) := by decide +kernel
theorem dX11_data_251 : decode cX11_data 251 = .ok (.istore 10, 2) := by decide +kernel
theorem dX11_data_253 : decode cX11_data 253 = .ok (.aload_n 0, 1) := by decide +kernel
theorem dX11_data_254 : decode cX11_data 254 = .ok (.invokevirtual 67, 3) := by decide +kernel
theorem dX11_data_257 : decode cX11_data 257 = .ok (.ifCond .eq 11, 3) := by decide +kernel
theorem dX11_data_260 : decode cX11_data 260 = .ok (.aload_n 0, 1) := by decide +kernel
theorem dX11_data_261 : decode cX11_data 261 = .ok (.aload_n 0, 1) := by decide +kernel
theorem dX11_data_262 : decode cX11_data 262 = .ok (.invokevirtual 181, 3) := by decide +kernel
theorem dX11_data_265 : decode cX11_data 265 = .ok (.invokevirtual 85, 3) := by decide +kernel
theorem dX11_data_268 : decode cX11_data 268 = .ok (.aload_n 0, 1) := by decide +kernel
theorem dX11_data_269 : decode cX11_data 269 = .ok (.bipush 15, 2) := by decide +kernel
theorem dX11_data_271 : decode cX11_data 271 = .ok (.iload 10, 2) := by decide +kernel
theorem dX11_data_273 : decode cX11_data 273 = .ok (.invokevirtual 135, 3) := by decide +kernel
theorem dX11_data_276 : decode cX11_data 276 = .ok (.goto 15, 3) := by decide +kernel
theorem dX11_data_279 : decode cX11_data 279 = .ok (.aload_n 0, 1) := by decide +kernel
theorem dX11_data_280 : decode cX11_data 280 = .ok (.iload_n 2, 1) := by decide +kernel
theorem dX11_data_281 : decode cX11_data 281 = .ok (.iload 7, 2) := by decide +kernel
theorem dX11_data_283 : decode cX11_data 283 = .ok (.iload 9, 2) := by decide +kernel
theorem dX11_data_285 : decode cX11_data 285 = .ok (.iload 8, 2) := by decide +kernel
theorem dX11_data_287 : decode cX11_data 287 = .ok (.iload_n 3, 1) := by decide +kernel
theorem dX11_data_288 : decode cX11_data 288 = .ok (.invokevirtual 184, 3) := by decide +kernel
theorem dX11_data_291 : decode cX11_data 291 = .ok (.return_, 1) := by decide +kernel
theorem dX11_turnedNumber_0 : decode cX11_turnedNumber 0 = .ok (.iconst 2, 1) := by decide +kernel
theorem dX11_turnedNumber_1 : decode cX11_turnedNumber 1 = .ok (.iload_n 1, 1) := by decide +kernel
theorem dX11_turnedNumber_2 : decode cX11_turnedNumber 2 = .ok (.bipush 8, 2) := by decide +kernel
theorem dX11_turnedNumber_4 : decode cX11_turnedNumber 4 = .ok (.ishr, 1) := by decide +kernel
theorem dX11_turnedNumber_5 : decode cX11_turnedNumber 5 = .ok (.bipush 15, 2) := by decide +kernel
theorem dX11_turnedNumber_7 : decode cX11_turnedNumber 7 = .ok (.iand, 1) := by decide +kernel
theorem dX11_turnedNumber_8 : decode cX11_turnedNumber 8 = .ok (.imul, 1) := by decide +kernel
theorem dX11_turnedNumber_9 : decode cX11_turnedNumber 9 = .ok (.istore_n 2, 1) := by decide +kernel
theorem dX11_turnedNumber_10 : decode cX11_turnedNumber 10 = .ok (.aload_n 0, 1) := by decide +kernel
theorem dX11_turnedNumber_11 : decode cX11_turnedNumber 11 = .ok (.iconst 3, 1) := by decide +kernel
theorem dX11_turnedNumber_12 : decode cX11_turnedNumber 12 = .ok (.iload_n 1, 1) := by decide +kernel
theorem dX11_turnedNumber_13 : decode cX11_turnedNumber 13 = .ok (.sipush 255, 3) := by decide +kernel
theorem dX11_turnedNumber_16 : decode cX11_turnedNumber 16 = .ok (.iand, 1) := by decide +kernel
theorem dX11_turnedNumber_17 : decode cX11_turnedNumber 17 = .ok (.iload_n 2, 1) := by decide +kernel
theorem dX11_turnedNumber_18 : decode cX11_turnedNumber 18 = .ok (.invokevirtual 141, 3) := by decide +kernel
theorem dX11_turnedNumber_21 : decode cX11_turnedNumber 21 = .ok (.ireturn, 1) := by decide +kernel
theorem dX11_isSo_0 : decode cX11_isSo 0 = .ok (.aload_n 0, 1) := by decide +kernel
theorem dX11_isSo_1 : decode cX11_isSo 1 = .ok (.bipush 31, 2) := by decide +kernel
theorem dX11_isSo_3 : decode cX11_isSo 3 = .ok (.invokevirtual 92, 3) := by decide +kernel
theorem dX11_isSo_6 : decode cX11_isSo 6 = .ok (.istore_n 2, 1) := by decide +kernel
theorem dX11_isSo_7 : decode cX11_isSo 7 = .ok (.aload_n 0, 1) := by decide +kernel
theorem dX11_isSo_8 : decode cX11_isSo 8 = .ok (.bipush 30, 2) := by decide +kernel
theorem dX11_isSo_10 : decode cX11_isSo 10 = .ok (.invokevirtual 92, 3) := by decide +kernel
theorem dX11_isSo_13 : decode cX11_isSo 13 = .ok (.istore_n 3, 1) := by decide +kernel
theorem dX11_isSo_14 : decode cX11_isSo 14 = .ok (.aload_n 0, 1) := by decide +kernel
theorem dX11_isSo_15 : decode cX11_isSo 15 = .ok (.bipush 28, 2) := by decide +kernel
theorem dX11_isSo_17 : decode cX11_isSo 17 = .ok (.invokevirtual 92, 3) := by decide +kernel
theorem dX11_isSo_20 : decode cX11_isSo 20 = .ok (.istore 4, 2) := by decide +kernel
theorem dX11_isSo_22 : decode cX11_isSo 22 = .ok (.iload_n 1, 1) := by decide +kernel
theorem dX11_isSo_23 : decode cX11_isSo 23 = .ok (.iconst 1, 1) := by decide +kernel
theorem dX11_isSo_24 : decode cX11_isSo 24 = .ok (.ishr, 1) := by decide +kernel
theorem dX11_isSo_25 : decode cX11_isSo 25 = .ok (.tableswitch 233 0 6 #[43, 62, 87, 107, 129, 167, 198], 43) := by decide +kernel
theorem dX11_isSo_68 : decode cX11_isSo 68 = .ok (.iload_n 3, 1) := by decide +kernel
theorem dX11_isSo_69 : decode cX11_isSo 69 = .ok (.iload_n 1, 1) := by decide +kernel
theorem dX11_isSo_70 : decode cX11_isSo 70 = .ok (.ifCond .ne 7, 3) := by decide +kernel
theorem dX11_isSo_73 : decode cX11_isSo 73 = .ok (.iconst 1, 1) := by decide +kernel
theorem dX11_isSo_74 : decode cX11_isSo 74 = .ok (.goto 4, 3) := by decide +kernel
theorem dX11_isSo_77 : decode cX11_isSo 77 = .ok (.iconst 0, 1) := by decide +kernel
theorem dX11_isSo_78 : decode cX11_isSo 78 = .ok (.if_icmp .ne 7, 3) := by decide +kernel
theorem dX11_isSo_81 : decode cX11_isSo 81 = .ok (.iconst 1, 1) := by decide +kernel
theorem dX11_isSo_82 : decode cX11_isSo 82 = .ok (.goto 4, 3) := by decide +kernel
theorem dX11_isSo_85 : decode cX11_isSo 85 = .ok (.iconst 0, 1) := by decide +kernel
theorem dX11_isSo_86 : decode cX11_isSo 86 = .ok (.ireturn, 1) := by decide +kernel
theorem dX11_isSo_87 : decode cX11_isSo 87 = .ok (.aload_n 0, 1) := by decide +kernel
theorem dX11_isSo_88 : decode cX11_isSo 88 = .ok (.bipush 29, 2) := by decide +kernel
theorem dX11_isSo_90 : decode cX11_isSo 90 = .ok (.invokevirtual 92, 3) := by decide +kernel
theorem dX11_isSo_93 : decode cX11_isSo 93 = .ok (.iload_n 1, 1) := by decide +kernel
theorem dX11_isSo_94 : decode cX11_isSo 94 = .ok (.iconst 2, 1) := by decide +kernel
theorem dX11_isSo_95 : decode cX11_isSo 95 = .ok (.if_icmp .ne 7, 3) := by decide +kernel
theorem dX11_isSo_98 : decode cX11_isSo 98 = .ok (.iconst 1, 1) := by decide +kernel
theorem dX11_isSo_99 : decode cX11_isSo 99 = .ok (.goto 4, 3) := by decide +kernel
theorem dX11_isSo_102 : decode cX11_isSo 102 = .ok (.iconst 0, 1) := by decide +kernel
theorem dX11_isSo_103 : decode cX11_isSo 103 = .ok (.if_icmp .ne 7, 3) := by decide +kernel
theorem dX11_isSo_106 : decode cX11_isSo 106 = .ok (.iconst 1, 1) := by decide +kernel
theorem dX11_isSo_107 : decode cX11_isSo 107 = .ok (.goto 4, 3) := by decide +kernel
theorem dX11_isSo_110 : decode cX11_isSo 110 = .ok (.iconst 0, 1) := by decide +kernel
theorem dX11_isSo_111 : decode cX11_isSo 111 = .ok (.ireturn, 1) := by decide +kernel
theorem dX11_isSo_112 : decode cX11_isSo 112 = .ok (.iload_n 2, 1) := by decide +kernel
theorem dX11_isSo_113 : decode cX11_isSo 113 = .ok (.iload_n 1, 1) := by decide +kernel
theorem dX11_isSo_114 : decode cX11_isSo 114 = .ok (.iconst 4, 1) := by decide +kernel
theorem dX11_isSo_115 : decode cX11_isSo 115 = .ok (.if_icmp .ne 7, 3) := by decide +kernel
theorem dX11_isSo_118 : decode cX11_isSo 118 = .ok (.iconst 1, 1) := by decide +kernel
theorem dX11_isSo_119 : decode cX11_isSo 119 = .ok (.goto 4, 3) := by decide +kernel
theorem dX11_isSo_122 : decode cX11_isSo 122 = .ok (.iconst 0, 1) := by decide +kernel
theorem dX11_isSo_123 : decode cX11_isSo 123 = .ok (.if_icmp .ne 7, 3) := by decide +kernel
theorem dX11_isSo_126 : decode cX11_isSo 126 = .ok (.iconst 1, 1) := by decide +kernel
theorem dX11_isSo_127 : decode cX11_isSo 127 = .ok (.goto 4, 3) := by decide +kernel
theorem dX11_isSo_130 : decode cX11_isSo 130 = .ok (.iconst 0, 1) := by decide +kernel
theorem dX11_isSo_131 : decode cX11_isSo 131 = .ok (.ireturn, 1) := by decide +kernel
theorem dX11_isSo_132 : decode cX11_isSo 132 = .ok (.iload 4, 2) := by decide +kernel
theorem dX11_isSo_134 : decode cX11_isSo 134 = .ok (.iload_n 1, 1) := by decide +kernel
theorem dX11_isSo_135 : decode cX11_isSo 135 = .ok (.bipush 6, 2) := by decide +kernel
theorem dX11_isSo_137 : decode cX11_isSo 137 = .ok (.if_icmp .ne 7, 3) := by decide +kernel
theorem dX11_isSo_140 : decode cX11_isSo 140 = .ok (.iconst 1, 1) := by decide +kernel
theorem dX11_isSo_141 : decode cX11_isSo 141 = .ok (.goto 4, 3) := by decide +kernel
theorem dX11_isSo_144 : decode cX11_isSo 144 = .ok (.iconst 0, 1) := by decide +kernel
theorem dX11_isSo_145 : decode cX11_isSo 145 = .ok (.if_icmp .ne 7, 3) := by decide +kernel
theorem dX11_isSo_148 : decode cX11_isSo 148 = .ok (.iconst 1, 1) := by decide +kernel
theorem dX11_isSo_149 : decode cX11_isSo 149 = .ok (.goto 4, 3) := by decide +kernel
theorem dX11_isSo_152 : decode cX11_isSo 152 = .ok (.iconst 0, 1) := by decide +kernel
theorem dX11_isSo_153 : decode cX11_isSo 153 = .ok (.ireturn, 1) := by decide +kernel
theorem dX11_isSo_154 : decode cX11_isSo 154 = .ok (.aload_n 0, 1) := by decide +kernel
theorem dX11_isSo_155 : decode cX11_isSo 155 = .ok (.bipush 29, 2) := by decide +kernel
theorem dX11_isSo_157 : decode cX11_isSo 157 = .ok (.invokevirtual 92, 3) := by decide +kernel
theorem dX11_isSo_160 : decode cX11_isSo 160 = .ok (.ifCond .eq 11, 3) := by decide +kernel
theorem dX11_isSo_163 : decode cX11_isSo 163 = .ok (.iload_n 3, 1) := by decide +kernel
theorem dX11_isSo_164 : decode cX11_isSo 164 = .ok (.ifCond .ne 7, 3) := by decide +kernel
theorem dX11_isSo_167 : decode cX11_isSo 167 = .ok (.iconst 1, 1) := by decide +kernel
theorem dX11_isSo_168 : decode cX11_isSo 168 = .ok (.goto 4, 3) := by decide +kernel
theorem dX11_isSo_171 : decode cX11_isSo 171 = .ok (.iconst 0, 1) := by decide +kernel
theorem dX11_isSo_172 : decode cX11_isSo 172 = .ok (.iload_n 1, 1) := by decide +kernel
theorem dX11_isSo_173 : decode cX11_isSo 173 = .ok (.bipush 8, 2) := by decide +kernel
theorem dX11_isSo_175 : decode cX11_isSo 175 = .ok (.if_icmp .ne 7, 3) := by decide +kernel
theorem dX11_isSo_178 : decode cX11_isSo 178 = .ok (.iconst 1, 1) := by decide +kernel
theorem dX11_isSo_179 : decode cX11_isSo 179 = .ok (.goto 4, 3) := by decide +kernel
theorem dX11_isSo_182 : decode cX11_isSo 182 = .ok (.iconst 0, 1) := by decide +kernel
theorem dX11_isSo_183 : decode cX11_isSo 183 = .ok (.if_icmp .ne 7, 3) := by decide +kernel
theorem dX11_isSo_186 : decode cX11_isSo 186 = .ok (.iconst 1, 1) := by decide +kernel
theorem dX11_isSo_187 : decode cX11_isSo 187 = .ok (.goto 4, 3) := by decide +kernel
theorem dX11_isSo_190 : decode cX11_isSo 190 = .ok (.iconst 0, 1) := by decide +kernel
theorem dX11_isSo_191 : decode cX11_isSo 191 = .ok (.ireturn, 1) := by decide +kernel
theorem dX11_isSo_192 : decode cX11_isSo 192 = .ok (.iload_n 2, 1) := by decide +kernel
theorem dX11_isSo_193 : decode cX11_isSo 193 = .ok (.iload 4, 2) := by decide +kernel
theorem dX11_isSo_195 : decode cX11_isSo 195 = .ok (.if_icmp .ne 7, 3) := by decide +kernel
theorem dX11_isSo_198 : decode cX11_isSo 198 = .ok (.iconst 1, 1) := by decide +kernel
theorem dX11_isSo_199 : decode cX11_isSo 199 = .ok (.goto 4, 3) := by decide +kernel
theorem dX11_isSo_202 : decode cX11_isSo 202 = .ok (.iconst 0, 1) := by decide +kernel
theorem dX11_isSo_203 : decode cX11_isSo 203 = .ok (.iload_n 1, 1) := by decide +kernel
theorem dX11_isSo_204 : decode cX11_isSo 204 = .ok (.bipush 10, 2) := by decide +kernel
theorem dX11_isSo_206 : decode cX11_isSo 206 = .ok (.if_icmp .ne 7, 3) := by decide +kernel
theorem dX11_isSo_209 : decode cX11_isSo 209 = .ok (.iconst 1, 1) := by decide +kernel
theorem dX11_isSo_210 : decode cX11_isSo 210 = .ok (.goto 4, 3) := by decide +kernel
theorem dX11_isSo_213 : decode cX11_isSo 213 = .ok (.iconst 0, 1) := by decide +kernel
theorem dX11_isSo_214 : decode cX11_isSo 214 = .ok (.if_icmp .ne 7, 3) := by decide +kernel
theorem dX11_isSo_217 : decode cX11_isSo 217 = .ok (.iconst 1, 1) := by decide +kernel
theorem dX11_isSo_218 : decode cX11_isSo 218 = .ok (.goto 4, 3) := by decide +kernel
theorem dX11_isSo_221 : decode cX11_isSo 221 = .ok (.iconst 0, 1) := by decide +kernel
theorem dX11_isSo_222 : decode cX11_isSo 222 = .ok (.ireturn, 1) := by decide +kernel
theorem dX11_isSo_223 : decode cX11_isSo 223 = .ok (.iload_n 3, 1) := by decide +kernel
theorem dX11_isSo_224 : decode cX11_isSo 224 = .ok (.ifCond .ne 13, 3) := by decide +kernel
theorem dX11_isSo_227 : decode cX11_isSo 227 = .ok (.iload_n 2, 1) := by decide +kernel
theorem dX11_isSo_228 : decode cX11_isSo 228 = .ok (.iload 4, 2) := by decide +kernel
theorem dX11_isSo_230 : decode cX11_isSo 230 = .ok (.if_icmp .ne 7, 3) := by decide +kernel
theorem dX11_isSo_233 : decode cX11_isSo 233 = .ok (.iconst 1, 1) := by decide +kernel
theorem dX11_isSo_234 : decode cX11_isSo 234 = .ok (.goto 4, 3) := by decide +kernel
theorem dX11_isSo_237 : decode cX11_isSo 237 = .ok (.iconst 0, 1) := by decide +kernel
theorem dX11_isSo_238 : decode cX11_isSo 238 = .ok (.iload_n 1, 1) := by decide +kernel
theorem dX11_isSo_239 : decode cX11_isSo 239 = .ok (.bipush 12, 2) := by decide +kernel
theorem dX11_isSo_241 : decode cX11_isSo 241 = .ok (.if_icmp .ne 7, 3) := by decide +kernel
theorem dX11_isSo_244 : decode cX11_isSo 244 = .ok (.iconst 1, 1) := by decide +kernel
theorem dX11_isSo_245 : decode cX11_isSo 245 = .ok (.goto 4, 3) := by decide +kernel
theorem dX11_isSo_248 : decode cX11_isSo 248 = .ok (.iconst 0, 1) := by decide +kernel
theorem dX11_isSo_249 : decode cX11_isSo 249 = .ok (.if_icmp .ne 7, 3) := by decide +kernel
theorem dX11_isSo_252 : decode cX11_isSo 252 = .ok (.iconst 1, 1) := by decide +kernel
theorem dX11_isSo_253 : decode cX11_isSo 253 = .ok (.goto 4, 3) := by decide +kernel
theorem dX11_isSo_256 : decode cX11_isSo 256 = .ok (.iconst 0, 1) := by decide +kernel
theorem dX11_isSo_257 : decode cX11_isSo 257 = .ok (.ireturn, 1) := by decide +kernel
theorem dX11_isSo_258 : decode cX11_isSo 258 = .ok (.iconst 1, 1) := by decide +kernel
theorem dX11_isSo_259 : decode cX11_isSo 259 = .ok (.ireturn, 1) := by decide +kernel
theorem dX11_arm_0 : decode cX11_arm 0 = .ok (.iload_n 1, 1) := by decide +kernel
theorem dX11_arm_1 : decode cX11_arm 1 = .ok (.bipush 28, 2) := by decide +kernel
theorem dX11_arm_3 : decode cX11_arm 3 = .ok (.iushr, 1) := by decide +kernel
theorem dX11_arm_4 : decode cX11_arm 4 = .ok (.istore_n 2, 1) := by decide +kernel
theorem dX11_arm_5 : decode cX11_arm 5 = .ok (.iload_n 2, 1) := by decide +kernel
theorem dX11_arm_6 : decode cX11_arm 6 = .ok (.bipush 15, 2) := by decide +kernel
theorem dX11_arm_8 : decode cX11_arm 8 = .ok (.if_icmp .ne 8, 3) := by decide +kernel
theorem dX11_arm_11 : decode cX11_arm 11 = .ok (.aload_n 0, 1) := by decide +kernel
theorem dX11_arm_12 : decode cX11_arm 12 = .ok (.invokevirtual 172, 3) := by decide +kernel
theorem dX11_arm_15 : decode cX11_arm 15 = .ok (.return_, 1) := by decide +kernel
theorem dX11_arm_16 : decode cX11_arm 16 = .ok (.aload_n 0, 1) := by decide +kernel
theorem dX11_arm_17 : decode cX11_arm 17 = .ok (.iload_n 2, 1) := by decide +kernel
theorem dX11_arm_18 : decode cX11_arm 18 = .ok (.invokevirtual 188, 3) := by decide +kernel
theorem dX11_arm_21 : decode cX11_arm 21 = .ok (.ifCond .ne 4, 3) := by decide +kernel
theorem dX11_arm_24 : decode cX11_arm 24 = .ok (.return_, 1) := by decide +kernel
theorem dX11_arm_25 : decode cX11_arm 25 = .ok (.iload_n 1, 1) := by decide +kernel
theorem dX11_arm_26 : decode cX11_arm 26 = .ok (.bipush 25, 2) := by decide +kernel
theorem dX11_arm_28 : decode cX11_arm 28 = .ok (.ishr, 1) := by decide +kernel
theorem dX11_arm_29 : decode cX11_arm 29 = .ok (.bipush 7, 2) := by decide +kernel
theorem dX11_arm_31 : decode cX11_arm 31 = .ok (.iand, 1) := by decide +kernel
theorem dX11_arm_32 : decode cX11_arm 32 = .ok (.istore_n 3, 1) := by decide +kernel
theorem dX11_arm_33 : decode cX11_arm 33 = .ok (.iload_n 1, 1) := by decide +kernel
theorem dX11_arm_34 : decode cX11_arm 34 = .ok (.iconst 4, 1) := by decide +kernel
theorem dX11_arm_35 : decode cX11_arm 35 = .ok (.ishr, 1) := by decide +kernel
theorem dX11_arm_36 : decode cX11_arm 36 = .ok (.ldc 191, 2) := by decide +kernel
theorem dX11_arm_38 : decode cX11_arm 38 = .ok (.iand, 1) := by decide +kernel
theorem dX11_arm_39 : decode cX11_arm 39 = .ok (.ldc 192, 2) := by decide +kernel
theorem dX11_arm_41 : decode cX11_arm 41 = .ok (.if_icmp .ne 18, 3) := by decide +kernel
theorem dX11_arm_44 : decode cX11_arm 44 = .ok (.aload_n 0, 1) := by decide +kernel
theorem dX11_arm_45 : decode cX11_arm 45 = .ok (.aload_n 0, 1) := by decide +kernel
theorem dX11_arm_46 : decode cX11_arm 46 = .ok (.iload_n 1, 1) := by decide +kernel
theorem dX11_arm_47 : decode cX11_arm 47 = .ok (.bipush 15, 2) := by decide +kernel
theorem dX11_arm_49 : decode cX11_arm 49 = .ok (.iand, 1) := by decide +kernel
theorem dX11_arm_50 : decode cX11_arm 50 = .ok (.invokevirtual 193, 3) := by decide +kernel
theorem dX11_arm_53 : decode cX11_arm 53 = .ok (.invokevirtual 196, 3) := by decide +kernel
theorem dX11_arm_56 : decode cX11_arm 56 = .ok (.goto 345, 3) := by decide +kernel
theorem dX11_arm_59 : decode cX11_arm 59 = .ok (.iload_n 1, 1) := by decide +kernel
theorem dX11_arm_60 : decode cX11_arm 60 = .ok (.bipush 24, 2) := by decide +kernel
theorem dX11_arm_62 : decode cX11_arm 62 = .ok (.ishr, 1) := by decide +kernel
theorem dX11_arm_63 : decode cX11_arm 63 = .ok (.bipush 15, 2) := by decide +kernel
theorem dX11_arm_65 : decode cX11_arm 65 = .ok (.iand, 1) := by decide +kernel
theorem dX11_arm_66 : decode cX11_arm 66 = .ok (.ifCond .ne 22, 3) := by decide +kernel
theorem dX11_arm_69 : decode cX11_arm 69 = .ok (.iload_n 1, 1) := by decide +kernel
theorem dX11_arm_70 : decode cX11_arm 70 = .ok (.iconst 4, 1) := by decide +kernel
theorem dX11_arm_71 : decode cX11_arm 71 = .ok (.ishr, 1) := by decide +kernel
theorem dX11_arm_72 : decode cX11_arm 72 = .ok (.bipush 15, 2) := by decide +kernel
theorem dX11_arm_74 : decode cX11_arm 74 = .ok (.iand, 1) := by decide +kernel
theorem dX11_arm_75 : decode cX11_arm 75 = .ok (.bipush 9, 2) := by decide +kernel
theorem dX11_arm_77 : decode cX11_arm 77 = .ok (.if_icmp .ne 11, 3) := by decide +kernel
theorem dX11_arm_80 : decode cX11_arm 80 = .ok (.aload_n 0, 1) := by decide +kernel
theorem dX11_arm_81 : decode cX11_arm 81 = .ok (.iload_n 1, 1) := by decide +kernel
theorem dX11_arm_82 : decode cX11_arm 82 = .ok (.invokevirtual 199, 3) := by decide +kernel
theorem dX11_arm_85 : decode cX11_arm 85 = .ok (.goto 316, 3) := by decide +kernel
theorem dX11_arm_88 : decode cX11_arm 88 = .ok (.iload_n 1, 1) := by decide +kernel
theorem dX11_arm_89 : decode cX11_arm 89 = .ok (.bipush 23, 2) := by decide +kernel
theorem dX11_arm_91 : decode cX11_arm 91 = .ok (.ishr, 1) := by decide +kernel
theorem dX11_arm_92 : decode cX11_arm 92 = .ok (.bipush 31, 2) := by decide +kernel
theorem dX11_arm_94 : decode cX11_arm 94 = .ok (.iand, 1) := by decide +kernel
theorem dX11_arm_95 : decode cX11_arm 95 = .ok (.iconst 2, 1) := by decide +kernel
theorem dX11_arm_96 : decode cX11_arm 96 = .ok (.if_icmp .ne 32, 3) := by decide +kernel
theorem dX11_arm_99 : decode cX11_arm 99 = .ok (.iload_n 1, 1) := by decide +kernel
theorem dX11_arm_100 : decode cX11_arm 100 = .ok (.bipush 20, 2) := by decide +kernel
theorem dX11_arm_102 : decode cX11_arm 102 = .ok (.ishr, 1) := by decide +kernel
theorem dX11_arm_103 : decode cX11_arm 103 = .ok (.iconst 3, 1) := by decide +kernel
theorem dX11_arm_104 : decode cX11_arm 104 = .ok (.iand, 1) := by decide +kernel
theorem dX11_arm_105 : decode cX11_arm 105 = .ok (.ifCond .ne 23, 3) := by decide +kernel
theorem dX11_arm_108 : decode cX11_arm 108 = .ok (.iload_n 1, 1) := by decide +kernel
theorem dX11_arm_109 : decode cX11_arm 109 = .ok (.iconst 4, 1) := by decide +kernel
theorem dX11_arm_110 : decode cX11_arm 110 = .ok (.ishr, 1) := by decide +kernel
theorem dX11_arm_111 : decode cX11_arm 111 = .ok (.sipush 255, 3) := by decide +kernel
theorem dX11_arm_114 : decode cX11_arm 114 = .ok (.iand, 1) := by decide +kernel
theorem dX11_arm_115 : decode cX11_arm 115 = .ok (.bipush 9, 2) := by decide +kernel
theorem dX11_arm_117 : decode cX11_arm 117 = .ok (.if_icmp .ne 11, 3) := by decide +kernel
theorem dX11_arm_120 : decode cX11_arm 120 = .ok (.aload_n 0, 1) := by decide +kernel
theorem dX11_arm_121 : decode cX11_arm 121 = .ok (.iload_n 1, 1) := by decide +kernel
theorem dX11_arm_122 : decode cX11_arm 122 = .ok (.invokevirtual 202, 3) := by decide +kernel
theorem dX11_arm_125 : decode cX11_arm 125 = .ok (.goto 276, 3) := by decide +kernel
theorem dX11_arm_128 : decode cX11_arm 128 = .ok (.iload_n 3, 1) := by decide +kernel
theorem dX11_arm_129 : decode cX11_arm 129 = .ok (.ifCond .ne 30, 3) := by decide +kernel
theorem dX11_arm_132 : decode cX11_arm 132 = .ok (.iload_n 1, 1) := by decide +kernel
theorem dX11_arm_133 : decode cX11_arm 133 = .ok (.sipush 144, 3) := by decide +kernel
theorem dX11_arm_136 : decode cX11_arm 136 = .ok (.iand, 1) := by decide +kernel
theorem dX11_arm_137 : decode cX11_arm 137 = .ok (.sipush 144, 3) := by decide +kernel
theorem dX11_arm_140 : decode cX11_arm 140 = .ok (.if_icmp .ne 19, 3) := by decide +kernel
theorem dX11_arm_143 : decode cX11_arm 143 = .ok (.iload_n 1, 1) := by decide +kernel
theorem dX11_arm_144 : decode cX11_arm 144 = .ok (.iconst 5, 1) := by decide +kernel
theorem dX11_arm_145 : decode cX11_arm 145 = .ok (.ishr, 1) := by decide +kernel
theorem dX11_arm_146 : decode cX11_arm 146 = .ok (.iconst 3, 1) := by decide +kernel
theorem dX11_arm_147 : decode cX11_arm 147 = .ok (.iand, 1) := by decide +kernel
theorem dX11_arm_148 : decode cX11_arm 148 = .ok (.ifCond .eq 11, 3) := by decide +kernel
theorem dX11_arm_151 : decode cX11_arm 151 = .ok (.aload_n 0, 1) := by decide +kernel
theorem dX11_arm_152 : decode cX11_arm 152 = .ok (.iload_n 1, 1) := by decide +kernel
theorem dX11_arm_153 : decode cX11_arm 153 = .ok (.invokevirtual 205, 3) := by decide +kernel
theorem dX11_arm_156 : decode cX11_arm 156 = .ok (.goto 245, 3) := by decide +kernel
theorem dX11_arm_159 : decode cX11_arm 159 = .ok (.iload_n 1, 1) := by decide +kernel
theorem dX11_arm_160 : decode cX11_arm 160 = .ok (.bipush 23, 2) := by decide +kernel
theorem dX11_arm_162 : decode cX11_arm 162 = .ok (.ishr, 1) := by decide +kernel
theorem dX11_arm_163 : decode cX11_arm 163 = .ok (.bipush 31, 2) := by decide +kernel
theorem dX11_arm_165 : decode cX11_arm 165 = .ok (.iand, 1) := by decide +kernel
theorem dX11_arm_166 : decode cX11_arm 166 = .ok (.iconst 2, 1) := by decide +kernel
theorem dX11_arm_167 : decode cX11_arm 167 = .ok (.if_icmp .ne 58, 3) := by decide +kernel
theorem dX11_arm_170 : decode cX11_arm 170 = .ok (.iload_n 1, 1) := by decide +kernel
theorem dX11_arm_171 : decode cX11_arm 171 = .ok (.bipush 16, 2) := by decide +kernel
theorem dX11_arm_173 : decode cX11_arm 173 = .ok (.ishr, 1) := by decide +kernel
theorem dX11_arm_174 : decode cX11_arm 174 = .ok (.bipush 63, 2) := by decide +kernel
theorem dX11_arm_176 : decode cX11_arm 176 = .ok (.iand, 1) := by decide +kernel
theorem dX11_arm_177 : decode cX11_arm 177 = .ok (.bipush 15, 2) := by decide +kernel
theorem dX11_arm_179 : decode cX11_arm 179 = .ok (.if_icmp .ne 46, 3) := by decide +kernel
theorem dX11_arm_182 : decode cX11_arm 182 = .ok (.iload_n 1, 1) := by decide +kernel
theorem dX11_arm_183 : decode cX11_arm 183 = .ok (.sipush 4095, 3) := by decide +kernel
theorem dX11_arm_186 : decode cX11_arm 186 = .ok (.iand, 1) := by decide +kernel
theorem dX11_arm_187 : decode cX11_arm 187 = .ok (.ifCond .ne 38, 3) := by decide +kernel
theorem dX11_arm_190 : decode cX11_arm 190 = .ok (.aload_n 0, 1) := by decide +kernel
theorem dX11_arm_191 : decode cX11_arm 191 = .ok (.iload_n 1, 1) := by decide +kernel
theorem dX11_arm_192 : decode cX11_arm 192 = .ok (.bipush 12, 2) := by decide +kernel
theorem dX11_arm_194 : decode cX11_arm 194 = .ok (.ishr, 1) := by decide +kernel
theorem dX11_arm_195 : decode cX11_arm 195 = .ok (.bipush 15, 2) := by decide +kernel
theorem dX11_arm_197 : decode cX11_arm 197 = .ok (.iand, 1) := by decide +kernel
theorem dX11_arm_198 : decode cX11_arm 198 = .ok (.iload_n 1, 1) := by decide +kernel
theorem dX11_arm_199 : decode cX11_arm 199 = .ok (.bipush 22, 2) := by decide +kernel
theorem dX11_arm_201 : decode cX11_arm 201 = .ok (.ishr, 1) := by decide +kernel
theorem dX11_arm_202 : decode cX11_arm 202 = .ok (.iconst 1, 1) := by decide +kernel
theorem dX11_arm_203 : decode cX11_arm 203 = .ok (.iand, 1) := by decide +kernel
theorem dX11_arm_204 : decode cX11_arm 204 = .ok (.iconst 1, 1) := by decide +kernel
theorem dX11_arm_205 : decode cX11_arm 205 = .ok (.if_icmp .ne 10, 3) := by decide +kernel
theorem dX11_arm_208 : decode cX11_arm 208 = .ok (.aload_n 0, 1) := by decide +kernel
theorem dX11_arm_209 : decode cX11_arm 209 = .ok (.invokevirtual 181, 3) := by decide +kernel
theorem dX11_arm_212 : decode cX11_arm 212 = .ok (.goto 7, 3) := by decide +kernel
theorem dX11_arm_215 : decode cX11_arm 215 = .ok (.aload_n 0, 1) := by decide +kernel
theorem dX11_arm_216 : decode cX11_arm 216 = .ok (.getfield 20, 3) := by decide +kernel
theorem dX11_arm_219 : decode cX11_arm 219 = .ok (.invokevirtual 135, 3) := by decide +kernel
theorem dX11_arm_222 : decode cX11_arm 222 = .ok (.goto 179, 3) := by decide +kernel
theorem dX11_arm_225 : decode cX11_arm 225 = .ok (.iload_n 1, 1) := by decide +kernel
theorem dX11_arm_226 : decode cX11_arm 226 = .ok (.invokestatic 208, 3) := by decide +kernel
theorem dX11_arm_229 : decode cX11_arm 229 = .ok (.ifCond .eq 11, 3) := by decide +kernel
theorem dX11_arm_232 : decode cX11_arm 232 = .ok (.aload_n 0, 1) := by decide +kernel
theorem dX11_arm_233 : decode cX11_arm 233 = .ok (.iload_n 1, 1) := by decide +kernel
theorem dX11_arm_234 : decode cX11_arm 234 = .ok (.invokevirtual 211, 3) := by decide +kernel
theorem dX11_arm_237 : decode cX11_arm 237 = .ok (.goto 164, 3) := by decide +kernel
theorem dX11_arm_240 : decode cX11_arm 240 = .ok (.iload_n 3, 1) := by decide +kernel
theorem dX11_arm_241 : decode cX11_arm 241 = .ok (.iconst 2, 1) := by decide +kernel
theorem dX11_arm_242 : decode cX11_arm 242 = .ok (.if_icmp .ge 11, 3) := by decide +kernel
theorem dX11_arm_245 : decode cX11_arm 245 = .ok (.aload_n 0, 1) := by decide +kernel
theorem dX11_arm_246 : decode cX11_arm 246 = .ok (.iload_n 1, 1) := by decide +kernel
theorem dX11_arm_247 : decode cX11_arm 247 = .ok (.invokevirtual 214, 3) := by decide +kernel
theorem dX11_arm_250 : decode cX11_arm 250 = .ok (.goto 151, 3) := by decide +kernel
theorem dX11_arm_253 : decode cX11_arm 253 = .ok (.iload_n 3, 1) := by decide +kernel
theorem dX11_arm_254 : decode cX11_arm 254 = .ok (.iconst 4, 1) := by decide +kernel
theorem dX11_arm_255 : decode cX11_arm 255 = .ok (.if_icmp .ge 11, 3) := by decide +kernel
theorem dX11_arm_258 : decode cX11_arm 258 = .ok (.aload_n 0, 1) := by decide +kernel
theorem dX11_arm_259 : decode cX11_arm 259 = .ok (.iload_n 1, 1) := by decide +kernel
theorem dX11_arm_260 : decode cX11_arm 260 = .ok (.invokevirtual 217, 3) := by decide +kernel
theorem dX11_arm_263 : decode cX11_arm 263 = .ok (.goto 138, 3) := by decide +kernel
theorem dX11_arm_266 : decode cX11_arm 266 = .ok (.iload_n 3, 1) := by decide +kernel
theorem dX11_arm_267 : decode cX11_arm 267 = .ok (.iconst 4, 1) := by decide +kernel
theorem dX11_arm_268 : decode cX11_arm 268 = .ok (.if_icmp .ne 96, 3) := by decide +kernel
theorem dX11_arm_271 : decode cX11_arm 271 = .ok (.aload_n 0, 1) := by decide +kernel
theorem dX11_arm_272 : decode cX11_arm 272 = .ok (.iload_n 1, 1) := by decide +kernel
theorem dX11_arm_273 : decode cX11_arm 273 = .ok (.bipush 20, 2) := by decide +kernel
theorem dX11_arm_275 : decode cX11_arm 275 = .ok (.ishr, 1) := by decide +kernel
theorem dX11_arm_276 : decode cX11_arm 276 = .ok (.iconst 1, 1) := by decide +kernel
theorem dX11_arm_277 : decode cX11_arm 277 = .ok (.iand, 1) := by decide +kernel
theorem dX11_arm_278 : decode cX11_arm 278 = .ok (.iconst 1, 1) := by decide +kernel
theorem dX11_arm_279 : decode cX11_arm 279 = .ok (.if_icmp .ne 7, 3) := by decide +kernel
theorem dX11_arm_282 : decode cX11_arm 282 = .ok (.iconst 1, 1) := by decide +kernel
theorem dX11_arm_283 : decode cX11_arm 283 = .ok (.goto 4, 3) := by decide +kernel
theorem dX11_arm_286 : decode cX11_arm 286 = .ok (.iconst 0, 1) := by decide +kernel
theorem dX11_arm_287 : decode cX11_arm 287 = .ok (.iload_n 1, 1) := by decide +kernel
theorem dX11_arm_288 : decode cX11_arm 288 = .ok (.bipush 16, 2) := by decide +kernel
theorem dX11_arm_290 : decode cX11_arm 290 = .ok (.ishr, 1) := by decide +kernel
theorem dX11_arm_291 : decode cX11_arm 291 = .ok (.bipush 15, 2) := by decide +kernel
theorem dX11_arm_293 : decode cX11_arm 293 = .ok (.iand, 1) := by decide +kernel
theorem dX11_arm_294 : decode cX11_arm 294 = .ok (.iload_n 1, 1) := by decide +kernel
theorem dX11_arm_295 : decode cX11_arm 295 = .ok (.ldc 121, 2) := by decide +kernel
theorem dX11_arm_297 : decode cX11_arm 297 = .ok (.iand, 1) := by decide +kernel
theorem dX11_arm_298 : decode cX11_arm 298 = .ok (.iload_n 1, 1) := by decide +kernel
theorem dX11_arm_299 : decode cX11_arm 299 = .ok (.bipush 23, 2) := by decide +kernel
theorem dX11_arm_301 : decode cX11_arm 301 = .ok (.ishr, 1) := by decide +kernel
theorem dX11_arm_302 : decode cX11_arm 302 = .ok (.iconst 1, 1) := by decide +kernel
theorem dX11_arm_303 : decode cX11_arm 303 = .ok (.iand, 1) := by decide +kernel
theorem dX11_arm_304 : decode cX11_arm 304 = .ok (.iconst 1, 1) := by decide +kernel
theorem dX11_arm_305 : decode cX11_arm 305 = .ok (.if_icmp .ne 7, 3) := by decide +kernel
theorem dX11_arm_308 : decode cX11_arm 308 = .ok (.iconst 1, 1) := by decide +kernel
theorem dX11_arm_309 : decode cX11_arm 309 = .ok (.goto 4, 3) := by decide +kernel
theorem dX11_arm_312 : decode cX11_arm 312 = .ok (.iconst 0, 1) := by decide +kernel
theorem dX11_arm_313 : decode cX11_arm 313 = .ok (.iload_n 1, 1) := by decide +kernel
theorem dX11_arm_314 : decode cX11_arm 314 = .ok (.bipush 24, 2) := by decide +kernel
theorem dX11_arm_316 : decode cX11_arm 316 = .ok (.ishr, 1) := by decide +kernel
theorem dX11_arm_317 : decode cX11_arm 317 = .ok (.iconst 1, 1) := by decide +kernel
theorem dX11_arm_318 : decode cX11_arm 318 = .ok (.iand, 1) := by decide +kernel
theorem dX11_arm_319 : decode cX11_arm 319 = .ok (.iconst 1, 1) := by decide +kernel
theorem dX11_arm_320 : decode cX11_arm 320 = .ok (.if_icmp .ne 7, 3) := by decide +kernel
theorem dX11_arm_323 : decode cX11_arm 323 = .ok (.iconst 1, 1) := by decide +kernel
theorem dX11_arm_324 : decode cX11_arm 324 = .ok (.goto 4, 3) := by decide +kernel
theorem dX11_arm_327 : decode cX11_arm 327 = .ok (.iconst 0, 1) := by decide +kernel
theorem dX11_arm_328 : decode cX11_arm 328 = .ok (.iload_n 1, 1) := by decide +kernel
theorem dX11_arm_329 : decode cX11_arm 329 = .ok (.bipush 21, 2) := by decide +kernel
theorem dX11_arm_331 : decode cX11_arm 331 = .ok (.ishr, 1) := by decide +kernel
theorem dX11_arm_332 : decode cX11_arm 332 = .ok (.iconst 1, 1) := by decide +kernel
theorem dX11_arm_333 : decode cX11_arm 333 = .ok (.iand, 1) := by decide +kernel
theorem dX11_arm_334 : decode cX11_arm 334 = .ok (.iconst 1, 1) := by decide +kernel
theorem dX11_arm_335 : decode cX11_arm 335 = .ok (.if_icmp .ne 7, 3) := by decide +kernel
theorem dX11_arm_338 : decode cX11_arm 338 = .ok (.iconst 1, 1) := by decide +kernel
theorem dX11_arm_339 : decode cX11_arm 339 = .ok (.goto 4, 3) := by decide +kernel
theorem dX11_arm_342 : decode cX11_arm 342 = .ok (.iconst 0, 1) := by decide +kernel
theorem dX11_arm_343 : decode cX11_arm 343 = .ok (.iload_n 1, 1) := by decide +kernel
theorem dX11_arm_344 : decode cX11_arm 344 = .ok (.bipush 22, 2) := by decide +kernel
theorem dX11_arm_346 : decode cX11_arm 346 = .ok (.ishr, 1) := by decide +kernel
theorem dX11_arm_347 : decode cX11_arm 347 = .ok (.iconst 1, 1) := by decide +kernel
theorem dX11_arm_348 : decode cX11_arm 348 = .ok (.iand, 1) := by decide +kernel
theorem dX11_arm_349 : decode cX11_arm 349 = .ok (.iconst 1, 1) := by decide +kernel
theorem dX11_arm_350 : decode cX11_arm 350 = .ok (.if_icmp .ne 7, 3) := by decide +kernel
theorem dX11_arm_353 : decode cX11_arm 353 = .ok (.iconst 1, 1) := by decide +kernel
theorem dX11_arm_354 : decode cX11_arm 354 = .ok (.goto 4, 3) := by decide +kernel
theorem dX11_arm_357 : decode cX11_arm 357 = .ok (.iconst 0, 1) := by decide +kernel
theorem dX11_arm_358 : decode cX11_arm 358 = .ok (.invokevirtual 220, 3) := by decide +kernel
theorem dX11_arm_361 : decode cX11_arm 361 = .ok (.goto 40, 3) := by decide +kernel
theorem dX11_arm_364 : decode cX11_arm 364 = .ok (.iload_n 3, 1) := by decide +kernel
theorem dX11_arm_365 : decode cX11_arm 365 = .ok (.iconst 5, 1) := by decide +kernel
theorem dX11_arm_366 : decode cX11_arm 366 = .ok (.if_icmp .ne 11, 3) := by decide +kernel
theorem dX11_arm_369 : decode cX11_arm 369 = .ok (.aload_n 0, 1) := by decide +kernel
theorem dX11_arm_370 : decode cX11_arm 370 = .ok (.iload_n 1, 1) := by decide +kernel
theorem dX11_arm_371 : decode cX11_arm 371 = .ok (.invokevirtual 224, 3) := by decide +kernel
theorem dX11_arm_374 : decode cX11_arm 374 = .ok (.goto 27, 3) := by decide +kernel
theorem dX11_arm_377 : decode cX11_arm 377 = .ok (.iload_n 1, 1) := by decide +kernel
theorem dX11_arm_378 : decode cX11_arm 378 = .ok (.bipush 24, 2) := by decide +kernel
theorem dX11_arm_380 : decode cX11_arm 380 = .ok (.ishr, 1) := by decide +kernel
theorem dX11_arm_381 : decode cX11_arm 381 = .ok (.bipush 15, 2) := by decide +kernel
theorem dX11_arm_383 : decode cX11_arm 383 = .ok (.iand, 1) := by decide +kernel
theorem dX11_arm_384 : decode cX11_arm 384 = .ok (.bipush 15, 2) := by decide +kernel
theorem dX11_arm_386 : decode cX11_arm 386 = .ok (.if_icmp .ne 11, 3) := by decide +kernel
theorem dX11_arm_389 : decode cX11_arm 389 = .ok (.aload_n 0, 1) := by decide +kernel
theorem dX11_arm_390 : decode cX11_arm 390 = .ok (.iconst 1, 1) := by decide +kernel
theorem dX11_arm_391 : decode cX11_arm 391 = .ok (.putfield 103, 3) := by decide +kernel
theorem dX11_arm_394 : decode cX11_arm 394 = .ok (.goto 7, 3) := by decide +kernel
theorem dX11_arm_397 : decode cX11_arm 397 = .ok (.aload_n 0, 1) := by decide +kernel
theorem dX11_arm_398 : decode cX11_arm 398 = .ok (.invokevirtual 172, 3) := by decide +kernel
theorem dX11_arm_401 : decode cX11_arm 401 = .ok (.return_, 1) := by decide +kernel
theorem dX11_exchange_0 : decode cX11_exchange 0 = .ok (.aload_n 0, 1) := by decide +kernel
theorem dX11_exchange_1 : decode cX11_exchange 1 = .ok (.iload_n 1, 1) := by decide +kernel
theorem dX11_exchange_2 : decode cX11_exchange 2 = .ok (.iconst 1, 1) := by decide +kernel
theorem dX11_exchange_3 : decode cX11_exchange 3 = .ok (.iand, 1) := by decide +kernel
theorem dX11_exchange_4 : decode cX11_exchange 4 = .ok (.iconst 1, 1) := by decide +kernel
theorem dX11_exchange_5 : decode cX11_exchange 5 = .ok (.if_icmp .ne 13, 3) := by decide +kernel
theorem dX11_exchange_8 : decode cX11_exchange 8 = .ok (.aload_n 0, 1) := by decide +kernel
theorem dX11_exchange_9 : decode cX11_exchange 9 = .ok (.getfield 20, 3) := by decide +kernel
theorem dX11_exchange_12 : decode cX11_exchange 12 = .ok (.bipush 32, 2) := by decide +kernel
theorem dX11_exchange_14 : decode cX11_exchange 14 = .ok (.ior, 1) := by decide +kernel
theorem dX11_exchange_15 : decode cX11_exchange 15 = .ok (.goto 10, 3) := by decide +kernel
theorem dX11_exchange_18 : decode cX11_exchange 18 = .ok (.aload_n 0, 1) := by decide +kernel
theorem dX11_exchange_19 : decode cX11_exchange 19 = .ok (.getfield 20, 3) := by decide +kernel
theorem dX11_exchange_22 : decode cX11_exchange 22 = .ok (.bipush (-33), 2) := by decide +kernel
theorem dX11_exchange_24 : decode cX11_exchange 24 = .ok (.iand, 1) := by decide +kernel
theorem dX11_exchange_25 : decode cX11_exchange 25 = .ok (.putfield 20, 3) := by decide +kernel
theorem dX11_exchange_28 : decode cX11_exchange 28 = .ok (.aload_n 0, 1) := by decide +kernel
theorem dX11_exchange_29 : decode cX11_exchange 29 = .ok (.bipush 15, 2) := by decide +kernel
theorem dX11_exchange_31 : decode cX11_exchange 31 = .ok (.iload_n 1, 1) := by decide +kernel
theorem dX11_exchange_32 : decode cX11_exchange 32 = .ok (.invokevirtual 135, 3) := by decide +kernel
theorem dX11_exchange_35 : decode cX11_exchange 35 = .ok (.return_, 1) := by decide +kernel
theorem dX11_branch_0 : decode cX11_branch 0 = .ok (.iload_n 1, 1) := by decide +kernel
theorem dX11_branch_1 : decode cX11_branch 1 = .ok (.bipush 24, 2) := by decide +kernel
theorem dX11_branch_3 : decode cX11_branch 3 = .ok (.ishr, 1) := by decide +kernel
theorem dX11_branch_4 : decode cX11_branch 4 = .ok (.iconst 1, 1) := by decide +kernel
theorem dX11_branch_5 : decode cX11_branch 5 = .ok (.iand, 1) := by decide +kernel
theorem dX11_branch_6 : decode cX11_branch 6 = .ok (.iconst 1, 1) := by decide +kernel
theorem dX11_branch_7 : decode cX11_branch 7 = .ok (.if_icmp .ne 15, 3) := by decide +kernel
theorem dX11_branch_10 : decode cX11_branch 10 = .ok (.aload_n 0, 1) := by decide +kernel
theorem dX11_branch_11 : decode cX11_branch 11 = .ok (.bipush 14, 2) := by decide +kernel
theorem dX11_branch_13 : decode cX11_branch 13 = .ok (.aload_n 0, 1) := by decide +kernel
theorem dX11_branch_14 : decode cX11_branch 14 = .ok (.getfield 46, 3) := by decide +kernel
theorem dX11_branch_17 : decode cX11_branch 17 = .ok (.iconst 4, 1) := by decide +kernel
theorem dX11_branch_18 : decode cX11_branch 18 = .ok (.iadd, 1) := by decide +kernel
theorem dX11_branch_19 : decode cX11_branch 19 = .ok (.invokevirtual 135, 3) := by decide +kernel
theorem dX11_branch_22 : decode cX11_branch 22 = .ok (.aload_n 0, 1) := by decide +kernel
theorem dX11_branch_23 : decode cX11_branch 23 = .ok (.bipush 15, 2) := by decide +kernel
theorem dX11_branch_25 : decode cX11_branch 25 = .ok (.aload_n 0, 1) := by decide +kernel
theorem dX11_branch_26 : decode cX11_branch 26 = .ok (.getfield 46, 3) := by decide +kernel
theorem dX11_branch_29 : decode cX11_branch 29 = .ok (.bipush 8, 2) := by decide +kernel
theorem dX11_branch_31 : decode cX11_branch 31 = .ok (.iadd, 1) := by decide +kernel
theorem dX11_branch_32 : decode cX11_branch 32 = .ok (.iconst 4, 1) := by decide +kernel
theorem dX11_branch_33 : decode cX11_branch 33 = .ok (.iload_n 1, 1) := by decide +kernel
theorem dX11_branch_34 : decode cX11_branch 34 = .ok (.bipush 8, 2) := by decide +kernel
theorem dX11_branch_36 : decode cX11_branch 36 = .ok (.ishl, 1) := by decide +kernel
theorem dX11_branch_37 : decode cX11_branch 37 = .ok (.bipush 8, 2) := by decide +kernel
theorem dX11_branch_39 : decode cX11_branch 39 = .ok (.ishr, 1) := by decide +kernel
theorem dX11_branch_40 : decode cX11_branch 40 = .ok (.imul, 1) := by decide +kernel
theorem dX11_branch_41 : decode cX11_branch 41 = .ok (.iadd, 1) := by decide +kernel
theorem dX11_branch_42 : decode cX11_branch 42 = .ok (.invokevirtual 135, 3) := by decide +kernel
theorem dX11_branch_45 : decode cX11_branch 45 = .ok (.return_, 1) := by decide +kernel
theorem dX11_multiply_0 : decode cX11_multiply 0 = .ok (.iload_n 1, 1) := by decide +kernel
theorem dX11_multiply_1 : decode cX11_multiply 1 = .ok (.bipush 16, 2) := by decide +kernel
theorem dX11_multiply_3 : decode cX11_multiply 3 = .ok (.ishr, 1) := by decide +kernel
theorem dX11_multiply_4 : decode cX11_multiply 4 = .ok (.bipush 15, 2) := by decide +kernel
theorem dX11_multiply_6 : decode cX11_multiply 6 = .ok (.iand, 1) := by decide +kernel
theorem dX11_multiply_7 : decode cX11_multiply 7 = .ok (.istore_n 2, 1) := by decide +kernel
theorem dX11_multiply_8 : decode cX11_multiply 8 = .ok (.iload_n 1, 1) := by decide +kernel
theorem dX11_multiply_9 : decode cX11_multiply 9 = .ok (.bipush 12, 2) := by decide +kernel
theorem dX11_multiply_11 : decode cX11_multiply 11 = .ok (.ishr, 1) := by decide +kernel
theorem dX11_multiply_12 : decode cX11_multiply 12 = .ok (.bipush 15, 2) := by decide +kernel
theorem dX11_multiply_14 : decode cX11_multiply 14 = .ok (.iand, 1) := by decide +kernel
theorem dX11_multiply_15 : decode cX11_multiply 15 = .ok (.istore_n 3, 1) := by decide +kernel
theorem dX11_multiply_16 : decode cX11_multiply 16 = .ok (.iload_n 1, 1) := by decide +kernel
theorem dX11_multiply_17 : decode cX11_multiply 17 = .ok (.bipush 8, 2) := by decide +kernel
theorem dX11_multiply_19 : decode cX11_multiply 19 = .ok (.ishr, 1) := by decide +kernel
theorem dX11_multiply_20 : decode cX11_multiply 20 = .ok (.bipush 15, 2) := by decide +kernel
theorem dX11_multiply_22 : decode cX11_multiply 22 = .ok (.iand, 1) := by decide +kernel
theorem dX11_multiply_23 : decode cX11_multiply 23 = .ok (.istore 4, 2) := by decide +kernel
theorem dX11_multiply_25 : decode cX11_multiply 25 = .ok (.iload_n 1, 1) := by decide +kernel
theorem dX11_multiply_26 : decode cX11_multiply 26 = .ok (.bipush 15, 2) := by decide +kernel
theorem dX11_multiply_28 : decode cX11_multiply 28 = .ok (.iand, 1) := by decide +kernel
theorem dX11_multiply_29 : decode cX11_multiply 29 = .ok (.istore 5, 2) := by decide +kernel
theorem dX11_multiply_31 : decode cX11_multiply 31 = .ok (.iload_n 1, 1) := by decide +kernel
theorem dX11_multiply_32 : decode cX11_multiply 32 = .ok (.bipush 22, 2) := by decide +kernel
theorem dX11_multiply_34 : decode cX11_multiply 34 = .ok (.ishr, 1) := by decide +kernel
theorem dX11_multiply_35 : decode cX11_multiply 35 = .ok (.iconst 3, 1) := by decide +kernel
theorem dX11_multiply_36 : decode cX11_multiply 36 = .ok (.iand, 1) := by decide +kernel
theorem dX11_multiply_37 : decode cX11_multiply 37 = .ok (.istore 6, 2) := by decide +kernel
theorem dX11_multiply_39 : decode cX11_multiply 39 = .ok (.iload_n 2, 1) := by decide +kernel
theorem dX11_multiply_40 : decode cX11_multiply 40 = .ok (.bipush 15, 2) := by decide +kernel
theorem dX11_multiply_42 : decode cX11_multiply 42 = .ok (.if_icmp .eq 40, 3) := by decide +kernel
theorem dX11_multiply_45 : decode cX11_multiply 45 = .ok (.iload_n 3, 1) := by decide +kernel
theorem dX11_multiply_46 : decode cX11_multiply 46 = .ok (.bipush 15, 2) := by decide +kernel
theorem dX11_multiply_48 : decode cX11_multiply 48 = .ok (.if_icmp .eq 34, 3) := by decide +kernel
theorem dX11_multiply_51 : decode cX11_multiply 51 = .ok (.iload 4, 2) := by decide +kernel
theorem dX11_multiply_53 : decode cX11_multiply 53 = .ok (.bipush 15, 2) := by decide +kernel
theorem dX11_multiply_55 : decode cX11_multiply 55 = .ok (.if_icmp .eq 27, 3) := by decide +kernel
theorem dX11_multiply_58 : decode cX11_multiply 58 = .ok (.iload 5, 2) := by decide +kernel
theorem dX11_multiply_60 : decode cX11_multiply 60 = .ok (.bipush 15, 2) := by decide +kernel
theorem dX11_multiply_62 : decode cX11_multiply 62 = .ok (.if_icmp .eq 20, 3) := by decide +kernel
theorem dX11_multiply_65 : decode cX11_multiply 65 = .ok (.iload 6, 2) := by decide +kernel
theorem dX11_multiply_67 : decode cX11_multiply 67 = .ok (.iconst 1, 1) := by decide +kernel
theorem dX11_multiply_68 : decode cX11_multiply 68 = .ok (.if_icmp .eq 14, 3) := by decide +kernel
theorem dX11_multiply_71 : decode cX11_multiply 71 = .ok (.iload 6, 2) := by decide +kernel
theorem dX11_multiply_73 : decode cX11_multiply 73 = .ok (.iconst 1, 1) := by decide +kernel
theorem dX11_multiply_74 : decode cX11_multiply 74 = .ok (.if_icmp .le 13, 3) := by decide +kernel
theorem dX11_multiply_77 : decode cX11_multiply 77 = .ok (.iload_n 3, 1) := by decide +kernel
theorem dX11_multiply_78 : decode cX11_multiply 78 = .ok (.iload_n 2, 1) := by decide +kernel
theorem dX11_multiply_79 : decode cX11_multiply 79 = .ok (.if_icmp .ne 8, 3) := by decide +kernel
theorem dX11_multiply_82 : decode cX11_multiply 82 = .ok (.aload_n 0, 1) := by decide +kernel
theorem dX11_multiply_83 : decode cX11_multiply 83 = .ok (.invokevirtual 172, 3) := by decide +kernel
theorem dX11_multiply_86 : decode cX11_multiply 86 = .ok (.return_, 1) := by decide +kernel
theorem dX11_multiply_87 : decode cX11_multiply 87 = .ok (.iload_n 1, 1) := by decide +kernel
theorem dX11_multiply_88 : decode cX11_multiply 88 = .ok (.bipush 21, 2) := by decide +kernel
theorem dX11_multiply_90 : decode cX11_multiply 90 = .ok (.ishr, 1) := by decide +kernel
theorem dX11_multiply_91 : decode cX11_multiply 91 = .ok (.iconst 1, 1) := by decide +kernel
theorem dX11_multiply_92 : decode cX11_multiply 92 = .ok (.iand, 1) := by decide +kernel
theorem dX11_multiply_93 : decode cX11_multiply 93 = .ok (.iconst 1, 1) := by decide +kernel
theorem dX11_multiply_94 : decode cX11_multiply 94 = .ok (.if_icmp .ne 7, 3) := by decide +kernel
theorem dX11_multiply_97 : decode cX11_multiply 97 = .ok (.iconst 1, 1) := by decide +kernel
theorem dX11_multiply_98 : decode cX11_multiply 98 = .ok (.goto 4, 3) := by decide +kernel
theorem dX11_multiply_101 : decode cX11_multiply 101 = .ok (.iconst 0, 1) := by decide +kernel
theorem dX11_multiply_102 : decode cX11_multiply 102 = .ok (.istore 7, 2) := by decide +kernel
theorem dX11_multiply_104 : decode cX11_multiply 104 = .ok (.iload_n 1, 1) := by decide +kernel
theorem dX11_multiply_105 : decode cX11_multiply 105 = .ok (.bipush 20, 2) := by decide +kernel
theorem dX11_multiply_107 : decode cX11_multiply 107 = .ok (.ishr, 1) := by decide +kernel
theorem dX11_multiply_108 : decode cX11_multiply 108 = .ok (.iconst 1, 1) := by decide +kernel
theorem dX11_multiply_109 : decode cX11_multiply 109 = .ok (.iand, 1) := by decide +kernel
theorem dX11_multiply_110 : decode cX11_multiply 110 = .ok (.iconst 1, 1) := by decide +kernel
theorem dX11_multiply_111 : decode cX11_multiply 111 = .ok (.if_icmp .ne 7, 3) := by decide +kernel
theorem dX11_multiply_114 : decode cX11_multiply 114 = .ok (.iconst 1, 1) := by decide +kernel
theorem dX11_multiply_115 : decode cX11_multiply 115 = .ok (.goto 4, 3) := by decide +kernel
theorem dX11_multiply_118 : decode cX11_multiply 118 = .ok (.iconst 0, 1) := by decide +kernel
theorem dX11_multiply_119 : decode cX11_multiply 119 = .ok (.istore 8, 2) := by decide +kernel
theorem dX11_multiply_121 : decode cX11_multiply 121 = .ok (.iload 6, 2) := by decide +kernel
theorem dX11_multiply_123 : decode cX11_multiply 123 = .ok (.ifCond .ne 52, 3) := by decide +kernel
theorem dX11_multiply_126 : decode cX11_multiply 126 = .ok (.aload_n 0, 1) := by decide +kernel
theorem dX11_multiply_127 : decode cX11_multiply 127 = .ok (.iload 5, 2) := by decide +kernel
theorem dX11_multiply_129 : decode cX11_multiply 129 = .ok (.invokevirtual 49, 3) := by decide +kernel
theorem dX11_multiply_132 : decode cX11_multiply 132 = .ok (.aload_n 0, 1) := by decide +kernel
theorem dX11_multiply_133 : decode cX11_multiply 133 = .ok (.iload 4, 2) := by decide +kernel
theorem dX11_multiply_135 : decode cX11_multiply 135 = .ok (.invokevirtual 49, 3) := by decide +kernel
theorem dX11_multiply_138 : decode cX11_multiply 138 = .ok (.imul, 1) := by decide +kernel
theorem dX11_multiply_139 : decode cX11_multiply 139 = .ok (.iload 7, 2) := by decide +kernel
theorem dX11_multiply_141 : decode cX11_multiply 141 = .ok (.ifCond .eq 11, 3) := by decide +kernel
theorem dX11_multiply_144 : decode cX11_multiply 144 = .ok (.aload_n 0, 1) := by decide +kernel
theorem dX11_multiply_145 : decode cX11_multiply 145 = .ok (.iload_n 3, 1) := by decide +kernel
theorem dX11_multiply_146 : decode cX11_multiply 146 = .ok (.invokevirtual 49, 3) := by decide +kernel
theorem dX11_multiply_149 : decode cX11_multiply 149 = .ok (.goto 4, 3) := by decide +kernel
theorem dX11_multiply_152 : decode cX11_multiply 152 = .ok (.iconst 0, 1) := by decide +kernel
theorem dX11_multiply_153 : decode cX11_multiply 153 = .ok (.iadd, 1) := by decide +kernel
theorem dX11_multiply_154 : decode cX11_multiply 154 = .ok (.istore 9, 2) := by decide +kernel
theorem dX11_multiply_156 : decode cX11_multiply 156 = .ok (.aload_n 0, 1) := by decide +kernel
theorem dX11_multiply_157 : decode cX11_multiply 157 = .ok (.iload_n 2, 1) := by decide +kernel
theorem dX11_multiply_158 : decode cX11_multiply 158 = .ok (.iload 9, 2) := by decide +kernel
theorem dX11_multiply_160 : decode cX11_multiply 160 = .ok (.invokevirtual 135, 3) := by decide +kernel
theorem dX11_multiply_163 : decode cX11_multiply 163 = .ok (.iload 8, 2) := by decide +kernel
theorem dX11_multiply_165 : decode cX11_multiply 165 = .ok (.ifCond .eq 9, 3) := by decide +kernel
theorem dX11_multiply_168 : decode cX11_multiply 168 = .ok (.aload_n 0, 1) := by decide +kernel
theorem dX11_multiply_169 : decode cX11_multiply 169 = .ok (.iload 9, 2) := by decide +kernel
theorem dX11_multiply_171 : decode cX11_multiply 171 = .ok (.invokevirtual 159, 3) := by decide +kernel
theorem dX11_multiply_174 : decode cX11_multiply 174 = .ok (.return_, 1) := by decide +kernel
theorem dX11_multiply_175 : decode cX11_multiply 175 = .ok (.iload 6, 2) := by decide +kernel
theorem dX11_multiply_177 : decode cX11_multiply 177 = .ok (.iconst 3, 1) := by decide +kernel
theorem dX11_multiply_178 : decode cX11_multiply 178 = .ok (.if_icmp .ne 13, 3) := by decide +kernel
theorem dX11_multiply_181 : decode cX11_multiply 181 = .ok (.aload_n 0, 1) := by decide +kernel
theorem dX11_multiply_182 : decode cX11_multiply 182 = .ok (.iload 5, 2) := by decide +kernel
theorem dX11_multiply_184 : decode cX11_multiply 184 = .ok (.invokevirtual 49, 3) := by decide +kernel
theorem dX11_multiply_187 : decode cX11_multiply 187 = .ok (.i2l, 1) := by decide +kernel
theorem dX11_multiply_188 : decode cX11_multiply 188 = .ok (.goto 14, 3) := by decide +kernel
theorem dX11_multiply_191 : decode cX11_multiply 191 = .ok (.aload_n 0, 1) := by decide +kernel
theorem dX11_multiply_192 : decode cX11_multiply 192 = .ok (.iload 5, 2) := by decide +kernel
theorem dX11_multiply_194 : decode cX11_multiply 194 = .ok (.invokevirtual 49, 3) := by decide +kernel
theorem dX11_multiply_197 : decode cX11_multiply 197 = .ok (.i2l, 1) := by decide +kernel
theorem dX11_multiply_198 : decode cX11_multiply 198 = .ok (.ldc2_w 145, 3) := by decide +kernel
theorem dX11_multiply_201 : decode cX11_multiply 201 = .ok (.land, 1) := by decide +kernel
theorem dX11_multiply_202 : decode cX11_multiply 202 = .ok (.lstore 9, 2) := by decide +kernel
theorem dX11_multiply_204 : decode cX11_multiply 204 = .ok (.iload 6, 2) := by decide +kernel
theorem dX11_multiply_206 : decode cX11_multiply 206 = .ok (.iconst 3, 1) := by decide +kernel
theorem dX11_multiply_207 : decode cX11_multiply 207 = .ok (.if_icmp .ne 13, 3) := by decide +kernel
theorem dX11_multiply_210 : decode cX11_multiply 210 = .ok (.aload_n 0, 1) := by decide +kernel
theorem dX11_multiply_211 : decode cX11_multiply 211 = .ok (.iload 4, 2) := by decide +kernel
theorem dX11_multiply_213 : decode cX11_multiply 213 = .ok (.invokevirtual 49, 3) := by decide +kernel
theorem dX11_multiply_216 : decode cX11_multiply 216 = .ok (.i2l, 1) := by decide +kernel
theorem dX11_multiply_217 : decode cX11_multiply 217 = .ok (.goto 14, 3) := by decide +kernel
theorem dX11_multiply_220 : decode cX11_multiply 220 = .ok (.aload_n 0, 1) := by decide +kernel
theorem dX11_multiply_221 : decode cX11_multiply 221 = .ok (.iload 4, 2) := by decide +kernel
theorem dX11_multiply_223 : decode cX11_multiply 223 = .ok (.invokevirtual 49, 3) := by decide +kernel
theorem dX11_multiply_226 : decode cX11_multiply 226 = .ok (.i2l, 1) := by decide +kernel
theorem dX11_multiply_227 : decode cX11_multiply 227 = .ok (.ldc2_w 145, 3) := by decide +kernel
theorem dX11_multiply_230 : decode cX11_multiply 230 = .ok (.land, 1) := by decide +kernel
theorem dX11_multiply_231 : decode cX11_multiply 231 = .ok (.lstore 11, 2) := by decide +kernel
theorem dX11_multiply_233 : decode cX11_multiply 233 = .ok (.lload 9, 2) := by decide +kernel
theorem dX11_multiply_235 : decode cX11_multiply 235 = .ok (.lload 11, 2) := by decide +kernel
theorem dX11_multiply_237 : decode cX11_multiply 237 = .ok (.lmul, 1) := by decide +kernel
theorem dX11_multiply_238 : decode cX11_multiply 238 = .ok (.iload 7, 2) := by decide +kernel
theorem dX11_multiply_240 : decode cX11_multiply 240 = .ok (.ifCond .eq 26, 3) := by decide +kernel
theorem dX11_multiply_243 : decode cX11_multiply 243 = .ok (.aload_n 0, 1) := by decide +kernel
theorem dX11_multiply_244 : decode cX11_multiply 244 = .ok (.iload_n 2, 1) := by decide +kernel
theorem dX11_multiply_245 : decode cX11_multiply 245 = .ok (.invokevirtual 49, 3) := by decide +kernel
theorem dX11_multiply_248 : decode cX11_multiply 248 = .ok (.i2l, 1) := by decide +kernel
theorem dX11_multiply_249 : decode cX11_multiply 249 = .ok (.bipush 32, 2) := by decide +kernel
theorem dX11_multiply_251 : decode cX11_multiply 251 = .ok (.lshl, 1) := by decide +kernel
theorem dX11_multiply_252 : decode cX11_multiply 252 = .ok (.aload_n 0, 1) := by decide +kernel
theorem dX11_multiply_253 : decode cX11_multiply 253 = .ok (.iload_n 3, 1) := by decide +kernel
theorem dX11_multiply_254 : decode cX11_multiply 254 = .ok (.invokevirtual 49, 3) := by decide +kernel
theorem dX11_multiply_257 : decode cX11_multiply 257 = .ok (.i2l, 1) := by decide +kernel
theorem dX11_multiply_258 : decode cX11_multiply 258 = .ok (.ldc2_w 145, 3) := by decide +kernel
theorem dX11_multiply_261 : decode cX11_multiply 261 = .ok (.land, 1) := by decide +kernel
theorem dX11_multiply_262 : decode cX11_multiply 262 = .ok (.lor, 1) := by decide +kernel
theorem dX11_multiply_263 : decode cX11_multiply 263 = .ok (.goto 4, 3) := by decide +kernel
theorem dX11_multiply_266 : decode cX11_multiply 266 = .ok (.lconst 0, 1) := by decide +kernel
theorem dX11_multiply_267 : decode cX11_multiply 267 = .ok (.ladd, 1) := by decide +kernel
theorem dX11_multiply_268 : decode cX11_multiply 268 = .ok (.lstore 13, 2) := by decide +kernel
theorem dX11_multiply_270 : decode cX11_multiply 270 = .ok (.aload_n 0, 1) := by decide +kernel
theorem dX11_multiply_271 : decode cX11_multiply 271 = .ok (.iload_n 3, 1) := by decide +kernel
theorem dX11_multiply_272 : decode cX11_multiply 272 = .ok (.lload 13, 2) := by decide +kernel
theorem dX11_multiply_274 : decode cX11_multiply 274 = .ok (.l2i, 1) := by decide +kernel
theorem dX11_multiply_275 : decode cX11_multiply 275 = .ok (.invokevirtual 135, 3) := by decide +kernel
theorem dX11_multiply_278 : decode cX11_multiply 278 = .ok (.aload_n 0, 1) := by decide +kernel
theorem dX11_multiply_279 : decode cX11_multiply 279 = .ok (.iload_n 2, 1) := by decide +kernel
theorem dX11_multiply_280 : decode cX11_multiply 280 = .ok (.lload 13, 2) := by decide +kernel
theorem dX11_multiply_282 : decode cX11_multiply 282 = .ok (.bipush 32, 2) := by decide +kernel
theorem dX11_multiply_284 : decode cX11_multiply 284 = .ok (.lshr, 1) := by decide +kernel
theorem dX11_multiply_285 : decode cX11_multiply 285 = .ok (.l2i, 1) := by decide +kernel
theorem dX11_multiply_286 : decode cX11_multiply 286 = .ok (.invokevirtual 135, 3) := by decide +kernel
theorem dX11_multiply_289 : decode cX11_multiply 289 = .ok (.iload 8, 2) := by decide +kernel
theorem dX11_multiply_291 : decode cX11_multiply 291 = .ok (.ifCond .eq 30, 3) := by decide +kernel
theorem dX11_multiply_294 : decode cX11_multiply 294 = .ok (.aload_n 0, 1) := by decide +kernel
theorem dX11_multiply_295 : decode cX11_multiply 295 = .ok (.lload 13, 2) := by decide +kernel
theorem dX11_multiply_297 : decode cX11_multiply 297 = .ok (.lconst 0, 1) := by decide +kernel
theorem dX11_multiply_298 : decode cX11_multiply 298 = .ok (.lcmp, 1) := by decide +kernel
theorem dX11_multiply_299 : decode cX11_multiply 299 = .ok (.ifCond .ge 7, 3) := by decide +kernel
theorem dX11_multiply_302 : decode cX11_multiply 302 = .ok (.iconst (-1), 1) := by decide +kernel
theorem dX11_multiply_303 : decode cX11_multiply 303 = .ok (.goto 15, 3) := by decide +kernel
theorem dX11_multiply_306 : decode cX11_multiply 306 = .ok (.lload 13, 2) := by decide +kernel
theorem dX11_multiply_308 : decode cX11_multiply 308 = .ok (.lconst 0, 1) := by decide +kernel
theorem dX11_multiply_309 : decode cX11_multiply 309 = .ok (.lcmp, 1) := by decide +kernel
theorem dX11_multiply_310 : decode cX11_multiply 310 = .ok (.ifCond .ne 7, 3) := by decide +kernel
theorem dX11_multiply_313 : decode cX11_multiply 313 = .ok (.iconst 0, 1) := by decide +kernel
theorem dX11_multiply_314 : decode cX11_multiply 314 = .ok (.goto 4, 3) := by decide +kernel
theorem dX11_multiply_317 : decode cX11_multiply 317 = .ok (.iconst 1, 1) := by decide +kernel
theorem dX11_multiply_318 : decode cX11_multiply 318 = .ok (.invokevirtual 159, 3) := by decide +kernel
theorem dX11_multiply_321 : decode cX11_multiply 321 = .ok (.return_, 1) := by decide +kernel
theorem dX11_swap_0 : decode cX11_swap 0 = .ok (.iload_n 1, 1) := by decide +kernel
theorem dX11_swap_1 : decode cX11_swap 1 = .ok (.bipush 16, 2) := by decide +kernel
theorem dX11_swap_3 : decode cX11_swap 3 = .ok (.ishr, 1) := by decide +kernel
theorem dX11_swap_4 : decode cX11_swap 4 = .ok (.bipush 15, 2) := by decide +kernel
theorem dX11_swap_6 : decode cX11_swap 6 = .ok (.iand, 1) := by decide +kernel
theorem dX11_swap_7 : decode cX11_swap 7 = .ok (.istore_n 2, 1) := by decide +kernel
theorem dX11_swap_8 : decode cX11_swap 8 = .ok (.iload_n 1, 1) := by decide +kernel
theorem dX11_swap_9 : decode cX11_swap 9 = .ok (.bipush 12, 2) := by decide +kernel
theorem dX11_swap_11 : decode cX11_swap 11 = .ok (.ishr, 1) := by decide +kernel
theorem dX11_swap_12 : decode cX11_swap 12 = .ok (.bipush 15, 2) := by decide +kernel
theorem dX11_swap_14 : decode cX11_swap 14 = .ok (.iand, 1) := by decide +kernel
theorem dX11_swap_15 : decode cX11_swap 15 = .ok (.istore_n 3, 1) := by decide +kernel
theorem dX11_swap_16 : decode cX11_swap 16 = .ok (.iload_n 1, 1) := by decide +kernel
theorem dX11_swap_17 : decode cX11_swap 17 = .ok (.bipush 15, 2) := by decide +kernel
theorem dX11_swap_19 : decode cX11_swap 19 = .ok (.iand, 1) := by decide +kernel
theorem dX11_swap_20 : decode cX11_swap 20 = .ok (.istore 4, 2) := by decide +kernel
theorem dX11_swap_22 : decode cX11_swap 22 = .ok (.iload_n 2, 1) := by decide +kernel
theorem dX11_swap_23 : decode cX11_swap 23 = .ok (.bipush 15, 2) := by decide +kernel
theorem dX11_swap_25 : decode cX11_swap 25 = .ok (.if_icmp .eq 16, 3) := by decide +kernel
theorem dX11_swap_28 : decode cX11_swap 28 = .ok (.iload_n 3, 1) := by decide +kernel
theorem dX11_swap_29 : decode cX11_swap 29 = .ok (.bipush 15, 2) := by decide +kernel
theorem dX11_swap_31 : decode cX11_swap 31 = .ok (.if_icmp .eq 10, 3) := by decide +kernel
theorem dX11_swap_34 : decode cX11_swap 34 = .ok (.iload 4, 2) := by decide +kernel
theorem dX11_swap_36 : decode cX11_swap 36 = .ok (.bipush 15, 2) := by decide +kernel
theorem dX11_swap_38 : decode cX11_swap 38 = .ok (.if_icmp .ne 8, 3) := by decide +kernel
theorem dX11_swap_41 : decode cX11_swap 41 = .ok (.aload_n 0, 1) := by decide +kernel
theorem dX11_swap_42 : decode cX11_swap 42 = .ok (.invokevirtual 172, 3) := by decide +kernel
theorem dX11_swap_45 : decode cX11_swap 45 = .ok (.return_, 1) := by decide +kernel
theorem dX11_swap_46 : decode cX11_swap 46 = .ok (.aload_n 0, 1) := by decide +kernel
theorem dX11_swap_47 : decode cX11_swap 47 = .ok (.iload_n 2, 1) := by decide +kernel
theorem dX11_swap_48 : decode cX11_swap 48 = .ok (.invokevirtual 49, 3) := by decide +kernel
theorem dX11_swap_51 : decode cX11_swap 51 = .ok (.istore 5, 2) := by decide +kernel
theorem dX11_swap_53 : decode cX11_swap 53 = .ok (.iload 5, 2) := by decide +kernel
theorem dX11_swap_55 : decode cX11_swap 55 = .ok (.invokestatic 106, 3) := by decide +kernel
theorem dX11_swap_58 : decode cX11_swap 58 = .ok (.ifCond .ne 9, 3) := by decide +kernel
theorem dX11_swap_61 : decode cX11_swap 61 = .ok (.aload_n 0, 1) := by decide +kernel
theorem dX11_swap_62 : decode cX11_swap 62 = .ok (.iconst 3, 1) := by decide +kernel
theorem dX11_swap_63 : decode cX11_swap 63 = .ok (.putfield 103, 3) := by decide +kernel
theorem dX11_swap_66 : decode cX11_swap 66 = .ok (.return_, 1) := by decide +kernel
theorem dX11_swap_67 : decode cX11_swap 67 = .ok (.iload_n 1, 1) := by decide +kernel
theorem dX11_swap_68 : decode cX11_swap 68 = .ok (.bipush 22, 2) := by decide +kernel
theorem dX11_swap_70 : decode cX11_swap 70 = .ok (.ishr, 1) := by decide +kernel
theorem dX11_swap_71 : decode cX11_swap 71 = .ok (.iconst 1, 1) := by decide +kernel
theorem dX11_swap_72 : decode cX11_swap 72 = .ok (.iand, 1) := by decide +kernel
theorem dX11_swap_73 : decode cX11_swap 73 = .ok (.iconst 1, 1) := by decide +kernel
theorem dX11_swap_74 : decode cX11_swap 74 = .ok (.if_icmp .ne 7, 3) := by decide +kernel
theorem dX11_swap_77 : decode cX11_swap 77 = .ok (.iconst 1, 1) := by decide +kernel
theorem dX11_swap_78 : decode cX11_swap 78 = .ok (.goto 4, 3) := by decide +kernel
theorem dX11_swap_81 : decode cX11_swap 81 = .ok (.iconst 4, 1) := by decide +kernel
theorem dX11_swap_82 : decode cX11_swap 82 = .ok (.istore 6, 2) := by decide +kernel
theorem dX11_swap_84 : decode cX11_swap 84 = .ok (.aload_n 0, 1) := by decide +kernel
theorem dX11_swap_85 : decode cX11_swap 85 = .ok (.iload 5, 2) := by decide +kernel
theorem dX11_swap_87 : decode cX11_swap 87 = .ok (.iload 6, 2) := by decide +kernel
theorem dX11_swap_89 : decode cX11_swap 89 = .ok (.invokevirtual 128, 3) := by decide +kernel
theorem dX11_swap_92 : decode cX11_swap 92 = .ok (.istore 7, 2) := by decide +kernel
theorem dX11_swap_94 : decode cX11_swap 94 = .ok (.aload_n 0, 1) := by decide +kernel
theorem dX11_swap_95 : decode cX11_swap 95 = .ok (.iload 5, 2) := by decide +kernel
theorem dX11_swap_97 : decode cX11_swap 97 = .ok (.iload 6, 2) := by decide +kernel
theorem dX11_swap_99 : decode cX11_swap 99 = .ok (.aload_n 0, 1) := by decide +kernel
theorem dX11_swap_100 : decode cX11_swap 100 = .ok (.iload 4, 2) := by decide +kernel
theorem dX11_swap_102 : decode cX11_swap 102 = .ok (.invokevirtual 49, 3) := by decide +kernel
theorem dX11_swap_105 : decode cX11_swap 105 = .ok (.invokevirtual 131, 3) := by decide +kernel
theorem dX11_swap_108 : decode cX11_swap 108 = .ok (.aload_n 0, 1) := by decide +kernel
theorem dX11_swap_109 : decode cX11_swap 109 = .ok (.iload_n 3, 1) := by decide +kernel
theorem dX11_swap_110 : decode cX11_swap 110 = .ok (.iload 7, 2) := by decide +kernel
theorem dX11_swap_112 : decode cX11_swap 112 = .ok (.invokevirtual 135, 3) := by decide +kernel
theorem dX11_swap_115 : decode cX11_swap 115 = .ok (.return_, 1) := by decide +kernel
theorem dX11_indexed_0 : decode cX11_indexed 0 = .ok (.iload_n 1, 1) := by decide +kernel
theorem dX11_indexed_1 : decode cX11_indexed 1 = .ok (.bipush 16, 2) := by decide +kernel
theorem dX11_indexed_3 : decode cX11_indexed 3 = .ok (.ishr, 1) := by decide +kernel
theorem dX11_indexed_4 : decode cX11_indexed 4 = .ok (.bipush 15, 2) := by decide +kernel
theorem dX11_indexed_6 : decode cX11_indexed 6 = .ok (.iand, 1) := by decide +kernel
theorem dX11_indexed_7 : decode cX11_indexed 7 = .ok (.istore 4, 2) := by decide +kernel
theorem dX11_indexed_9 : decode cX11_indexed 9 = .ok (.iload_n 1, 1) := by decide +kernel
theorem dX11_indexed_10 : decode cX11_indexed 10 = .ok (.bipush 24, 2) := by decide +kernel
theorem dX11_indexed_12 : decode cX11_indexed 12 = .ok (.ishr, 1) := by decide +kernel
theorem dX11_indexed_13 : decode cX11_indexed 13 = .ok (.iconst 1, 1) := by decide +kernel
theorem dX11_indexed_14 : decode cX11_indexed 14 = .ok (.iand, 1) := by decide +kernel
theorem dX11_indexed_15 : decode cX11_indexed 15 = .ok (.iconst 1, 1) := by decide +kernel
theorem dX11_indexed_16 : decode cX11_indexed 16 = .ok (.if_icmp .ne 7, 3) := by decide +kernel
theorem dX11_indexed_19 : decode cX11_indexed 19 = .ok (.iconst 1, 1) := by decide +kernel
theorem dX11_indexed_20 : decode cX11_indexed 20 = .ok (.goto 4, 3) := by decide +kernel
theorem dX11_indexed_23 : decode cX11_indexed 23 = .ok (.iconst 0, 1) := by decide +kernel
theorem dX11_indexed_24 : decode cX11_indexed 24 = .ok (.istore 5, 2) := by decide +kernel
theorem dX11_indexed_26 : decode cX11_indexed 26 = .ok (.aload_n 0, 1) := by decide +kernel
theorem dX11_indexed_27 : decode cX11_indexed 27 = .ok (.iload 4, 2) := by decide +kernel
theorem dX11_indexed_29 : decode cX11_indexed 29 = .ok (.invokevirtual 193, 3) := by decide +kernel
theorem dX11_indexed_32 : decode cX11_indexed 32 = .ok (.istore 6, 2) := by decide +kernel
theorem dX11_indexed_34 : decode cX11_indexed 34 = .ok (.iload_n 1, 1) := by decide +kernel
theorem dX11_indexed_35 : decode cX11_indexed 35 = .ok (.bipush 23, 2) := by decide +kernel
theorem dX11_indexed_37 : decode cX11_indexed 37 = .ok (.ishr, 1) := by decide +kernel
theorem dX11_indexed_38 : decode cX11_indexed 38 = .ok (.iconst 1, 1) := by decide +kernel
theorem dX11_indexed_39 : decode cX11_indexed 39 = .ok (.iand, 1) := by decide +kernel
theorem dX11_indexed_40 : decode cX11_indexed 40 = .ok (.iconst 1, 1) := by decide +kernel
theorem dX11_indexed_41 : decode cX11_indexed 41 = .ok (.if_icmp .ne 10, 3) := by decide +kernel
theorem dX11_indexed_44 : decode cX11_indexed 44 = .ok (.iload 6, 2) := by decide +kernel
theorem dX11_indexed_46 : decode cX11_indexed 46 = .ok (.iload_n 3, 1) := by decide +kernel
theorem dX11_indexed_47 : decode cX11_indexed 47 = .ok (.iadd, 1) := by decide +kernel
theorem dX11_indexed_48 : decode cX11_indexed 48 = .ok (.goto 7, 3) := by decide +kernel
theorem dX11_indexed_51 : decode cX11_indexed 51 = .ok (.iload 6, 2) := by decide +kernel
theorem dX11_indexed_53 : decode cX11_indexed 53 = .ok (.iload_n 3, 1) := by decide +kernel
theorem dX11_indexed_54 : decode cX11_indexed 54 = .ok (.isub, 1) := by decide +kernel
theorem dX11_indexed_55 : decode cX11_indexed 55 = .ok (.istore 7, 2) := by decide +kernel
theorem dX11_indexed_57 : decode cX11_indexed 57 = .ok (.iload 5, 2) := by decide +kernel
theorem dX11_indexed_59 : decode cX11_indexed 59 = .ok (.ifCond .eq 13, 3) := by decide +kernel
theorem dX11_indexed_62 : decode cX11_indexed 62 = .ok (.iload_n 1, 1) := by decide +kernel
theorem dX11_indexed_63 : decode cX11_indexed 63 = .ok (.bipush 21, 2) := by decide +kernel
theorem dX11_indexed_65 : decode cX11_indexed 65 = .ok (.ishr, 1) := by decide +kernel
theorem dX11_indexed_66 : decode cX11_indexed 66 = .ok (.iconst 1, 1) := by decide +kernel
theorem dX11_indexed_67 : decode cX11_indexed 67 = .ok (.iand, 1) := by decide +kernel
theorem dX11_indexed_68 : decode cX11_indexed 68 = .ok (.iconst 1, 1) := by decide +kernel
theorem dX11_indexed_69 : decode cX11_indexed 69 = .ok (.if_icmp .ne 7, 3) := by decide +kernel
theorem dX11_indexed_72 : decode cX11_indexed 72 = .ok (.iconst 1, 1) := by decide +kernel
theorem dX11_indexed_73 : decode cX11_indexed 73 = .ok (.goto 4, 3) := by decide +kernel
theorem dX11_indexed_76 : decode cX11_indexed 76 = .ok (.iconst 0, 1) := by decide +kernel
theorem dX11_indexed_77 : decode cX11_indexed 77 = .ok (.istore 8, 2) := by decide +kernel
theorem dX11_indexed_79 : decode cX11_indexed 79 = .ok (.aload_n 0, 1) := by decide +kernel
theorem dX11_indexed_80 : decode cX11_indexed 80 = .ok (.iload_n 1, 1) := by decide +kernel
theorem dX11_indexed_81 : decode cX11_indexed 81 = .ok (.bipush 20, 2) := by decide +kernel
theorem dX11_indexed_83 : decode cX11_indexed 83 = .ok (.ishr, 1) := by decide +kernel
theorem dX11_indexed_84 : decode cX11_indexed 84 = .ok (.iconst 1, 1) := by decide +kernel
theorem dX11_indexed_85 : decode cX11_indexed 85 = .ok (.iand, 1) := by decide +kernel
theorem dX11_indexed_86 : decode cX11_indexed 86 = .ok (.iconst 1, 1) := by decide +kernel
theorem dX11_indexed_87 : decode cX11_indexed 87 = .ok (.if_icmp .ne 7, 3) := by decide +kernel
theorem dX11_indexed_90 : decode cX11_indexed 90 = .ok (.iconst 1, 1) := by decide +kernel
theorem dX11_indexed_91 : decode cX11_indexed 91 = .ok (.goto 4, 3) := by decide +kernel
theorem dX11_indexed_94 : decode cX11_indexed 94 = .ok (.iconst 0, 1) := by decide +kernel
theorem dX11_indexed_95 : decode cX11_indexed 95 = .ok (.iload_n 2, 1) := by decide +kernel
theorem dX11_indexed_96 : decode cX11_indexed 96 = .ok (.iload_n 1, 1) := by decide +kernel
theorem dX11_indexed_97 : decode cX11_indexed 97 = .ok (.bipush 12, 2) := by decide +kernel
theorem dX11_indexed_99 : decode cX11_indexed 99 = .ok (.ishr, 1) := by decide +kernel
theorem dX11_indexed_100 : decode cX11_indexed 100 = .ok (.bipush 15, 2) := by decide +kernel
theorem dX11_indexed_102 : decode cX11_indexed 102 = .ok (.iand, 1) := by decide +kernel
theorem dX11_indexed_103 : decode cX11_indexed 103 = .ok (.iload 5, 2) := by decide +kernel
theorem dX11_indexed_105 : decode cX11_indexed 105 = .ok (.ifCond .eq 8, 3) := by decide +kernel
theorem dX11_indexed_108 : decode cX11_indexed 108 = .ok (.iload 7, 2) := by decide +kernel
theorem dX11_indexed_110 : decode cX11_indexed 110 = .ok (.goto 5, 3) := by decide +kernel
theorem dX11_indexed_113 : decode cX11_indexed 113 = .ok (.iload 6, 2) := by decide +kernel
theorem dX11_indexed_115 : decode cX11_indexed 115 = .ok (.iload 8, 2) := by decide +kernel
theorem dX11_indexed_117 : decode cX11_indexed 117 = .ok (.ifCond .eq 8, 3) := by decide +kernel
theorem dX11_indexed_120 : decode cX11_indexed 120 = .ok (.iload 4, 2) := by decide +kernel
theorem dX11_indexed_122 : decode cX11_indexed 122 = .ok (.goto 4, 3) := by decide +kernel
theorem dX11_indexed_125 : decode cX11_indexed 125 = .ok (.iconst (-1), 1) := by decide +kernel
theorem dX11_indexed_126 : decode cX11_indexed 126 = .ok (.iload 7, 2) := by decide +kernel
theorem dX11_indexed_128 : decode cX11_indexed 128 = .ok (.invokevirtual 227, 3) := by decide +kernel
theorem dX11_indexed_131 : decode cX11_indexed 131 = .ok (.return_, 1) := by decide +kernel
theorem dX11_halves_0 : decode cX11_halves 0 = .ok (.iload_n 1, 1) := by decide +kernel
theorem dX11_halves_1 : decode cX11_halves 1 = .ok (.iconst 5, 1) := by decide +kernel
theorem dX11_halves_2 : decode cX11_halves 2 = .ok (.ishr, 1) := by decide +kernel
theorem dX11_halves_3 : decode cX11_halves 3 = .ok (.iconst 3, 1) := by decide +kernel
theorem dX11_halves_4 : decode cX11_halves 4 = .ok (.iand, 1) := by decide +kernel
theorem dX11_halves_5 : decode cX11_halves 5 = .ok (.istore_n 2, 1) := by decide +kernel
theorem dX11_halves_6 : decode cX11_halves 6 = .ok (.iload_n 1, 1) := by decide +kernel
theorem dX11_halves_7 : decode cX11_halves 7 = .ok (.bipush 20, 2) := by decide +kernel
theorem dX11_halves_9 : decode cX11_halves 9 = .ok (.ishr, 1) := by decide +kernel
theorem dX11_halves_10 : decode cX11_halves 10 = .ok (.iconst 1, 1) := by decide +kernel
theorem dX11_halves_11 : decode cX11_halves 11 = .ok (.iand, 1) := by decide +kernel
theorem dX11_halves_12 : decode cX11_halves 12 = .ok (.iconst 1, 1) := by decide +kernel
theorem dX11_halves_13 : decode cX11_halves 13 = .ok (.if_icmp .ne 7, 3) := by decide +kernel
theorem dX11_halves_16 : decode cX11_halves 16 = .ok (.iconst 1, 1) := by decide +kernel
theorem dX11_halves_17 : decode cX11_halves 17 = .ok (.goto 4, 3) := by decide +kernel
theorem dX11_halves_20 : decode cX11_halves 20 = .ok (.iconst 0, 1) := by decide +kernel
theorem dX11_halves_21 : decode cX11_halves 21 = .ok (.istore_n 3, 1) := by decide +kernel
theorem dX11_halves_22 : decode cX11_halves 22 = .ok (.iload_n 3, 1) := by decide +kernel
theorem dX11_halves_23 : decode cX11_halves 23 = .ok (.ifCond .ne 13, 3) := by decide +kernel
theorem dX11_halves_26 : decode cX11_halves 26 = .ok (.iload_n 2, 1) := by decide +kernel
theorem dX11_halves_27 : decode cX11_halves 27 = .ok (.iconst 1, 1) := by decide +kernel
theorem dX11_halves_28 : decode cX11_halves 28 = .ok (.if_icmp .le 8, 3) := by decide +kernel
theorem dX11_halves_31 : decode cX11_halves 31 = .ok (.aload_n 0, 1) := by decide +kernel
theorem dX11_halves_32 : decode cX11_halves 32 = .ok (.invokevirtual 172, 3) := by decide +kernel
theorem dX11_halves_35 : decode cX11_halves 35 = .ok (.return_, 1) := by decide +kernel
theorem dX11_halves_36 : decode cX11_halves 36 = .ok (.iload_n 1, 1) := by decide +kernel
theorem dX11_halves_37 : decode cX11_halves 37 = .ok (.bipush 22, 2) := by decide +kernel
theorem dX11_halves_39 : decode cX11_halves 39 = .ok (.ishr, 1) := by decide +kernel
theorem dX11_halves_40 : decode cX11_halves 40 = .ok (.iconst 1, 1) := by decide +kernel
theorem dX11_halves_41 : decode cX11_halves 41 = .ok (.iand, 1) := by decide +kernel
theorem dX11_halves_42 : decode cX11_halves 42 = .ok (.iconst 1, 1) := by decide +kernel
theorem dX11_halves_43 : decode cX11_halves 43 = .ok (.if_icmp .ne 18, 3) := by decide +kernel
theorem dX11_halves_46 : decode cX11_halves 46 = .ok (.iload_n 1, 1) := by decide +kernel
theorem dX11_halves_47 : decode cX11_halves 47 = .ok (.iconst 4, 1) := by decide +kernel
theorem dX11_halves_48 : decode cX11_halves 48 = .ok (.ishr, 1) := by decide +kernel
theorem dX11_halves_49 : decode cX11_halves 49 = .ok (.sipush 240, 3) := by decide +kernel
theorem dX11_halves_52 : decode cX11_halves 52 = .ok (.iand, 1) := by decide +kernel
theorem dX11_halves_53 : decode cX11_halves 53 = .ok (.iload_n 1, 1) := by decide +kernel
theorem dX11_halves_54 : decode cX11_halves 54 = .ok (.bipush 15, 2) := by decide +kernel
theorem dX11_halves_56 : decode cX11_halves 56 = .ok (.iand, 1) := by decide +kernel
theorem dX11_halves_57 : decode cX11_halves 57 = .ok (.ior, 1) := by decide +kernel
theorem dX11_halves_58 : decode cX11_halves 58 = .ok (.goto 11, 3) := by decide +kernel
theorem dX11_halves_61 : decode cX11_halves 61 = .ok (.aload_n 0, 1) := by decide +kernel
theorem dX11_halves_62 : decode cX11_halves 62 = .ok (.iload_n 1, 1) := by decide +kernel
theorem dX11_halves_63 : decode cX11_halves 63 = .ok (.bipush 15, 2) := by decide +kernel
theorem dX11_halves_65 : decode cX11_halves 65 = .ok (.iand, 1) := by decide +kernel
theorem dX11_halves_66 : decode cX11_halves 66 = .ok (.invokevirtual 193, 3) := by decide +kernel
theorem dX11_halves_69 : decode cX11_halves 69 = .ok (.istore 4, 2) := by decide +kernel
theorem dX11_halves_71 : decode cX11_halves 71 = .ok (.aload_n 0, 1) := by decide +kernel
theorem dX11_halves_72 : decode cX11_halves 72 = .ok (.iload_n 1, 1) := by decide +kernel
theorem dX11_halves_73 : decode cX11_halves 73 = .ok (.iload_n 2, 1) := by decide +kernel
theorem dX11_halves_74 : decode cX11_halves 74 = .ok (.iconst 1, 1) := by decide +kernel
theorem dX11_halves_75 : decode cX11_halves 75 = .ok (.if_icmp .ne 7, 3) := by decide +kernel
theorem dX11_halves_78 : decode cX11_halves 78 = .ok (.iconst 2, 1) := by decide +kernel
theorem dX11_halves_79 : decode cX11_halves 79 = .ok (.goto 14, 3) := by decide +kernel
theorem dX11_halves_82 : decode cX11_halves 82 = .ok (.iload_n 2, 1) := by decide +kernel
theorem dX11_halves_83 : decode cX11_halves 83 = .ok (.iconst 2, 1) := by decide +kernel
theorem dX11_halves_84 : decode cX11_halves 84 = .ok (.if_icmp .ne 7, 3) := by decide +kernel
theorem dX11_halves_87 : decode cX11_halves 87 = .ok (.iconst (-1), 1) := by decide +kernel
theorem dX11_halves_88 : decode cX11_halves 88 = .ok (.goto 5, 3) := by decide +kernel
theorem dX11_halves_91 : decode cX11_halves 91 = .ok (.bipush (-2), 2) := by decide +kernel
theorem dX11_halves_93 : decode cX11_halves 93 = .ok (.iload 4, 2) := by decide +kernel
theorem dX11_halves_95 : decode cX11_halves 95 = .ok (.invokevirtual 231, 3) := by decide +kernel
theorem dX11_halves_98 : decode cX11_halves 98 = .ok (.return_, 1) := by decide +kernel
theorem dX11_single_0 : decode cX11_single 0 = .ok (.iload_n 1, 1) := by decide +kernel
theorem dX11_single_1 : decode cX11_single 1 = .ok (.bipush 25, 2) := by decide +kernel
theorem dX11_single_3 : decode cX11_single 3 = .ok (.ishr, 1) := by decide +kernel
theorem dX11_single_4 : decode cX11_single 4 = .ok (.iconst 1, 1) := by decide +kernel
theorem dX11_single_5 : decode cX11_single 5 = .ok (.iand, 1) := by decide +kernel
theorem dX11_single_6 : decode cX11_single 6 = .ok (.iconst 1, 1) := by decide +kernel
theorem dX11_single_7 : decode cX11_single 7 = .ok (.if_icmp .ne 7, 3) := by decide +kernel
theorem dX11_single_10 : decode cX11_single 10 = .ok (.iconst 1, 1) := by decide +kernel
theorem dX11_single_11 : decode cX11_single 11 = .ok (.goto 4, 3) := by decide +kernel
theorem dX11_single_14 : decode cX11_single 14 = .ok (.iconst 0, 1) := by decide +kernel
theorem dX11_single_15 : decode cX11_single 15 = .ok (.istore_n 2, 1) := by decide +kernel
theorem dX11_single_16 : decode cX11_single 16 = .ok (.iload_n 2, 1) := by decide +kernel
theorem dX11_single_17 : decode cX11_single 17 = .ok (.ifCond .eq 17, 3) := by decide +kernel
theorem dX11_single_20 : decode cX11_single 20 = .ok (.iload_n 1, 1) := by decide +kernel
theorem dX11_single_21 : decode cX11_single 21 = .ok (.iconst 4, 1) := by decide +kernel
theorem dX11_single_22 : decode cX11_single 22 = .ok (.ishr, 1) := by decide +kernel
theorem dX11_single_23 : decode cX11_single 23 = .ok (.iconst 1, 1) := by decide +kernel
theorem dX11_single_24 : decode cX11_single 24 = .ok (.iand, 1) := by decide +kernel
theorem dX11_single_25 : decode cX11_single 25 = .ok (.iconst 1, 1) := by decide +kernel
theorem dX11_single_26 : decode cX11_single 26 = .ok (.if_icmp .ne 8, 3) := by decide +kernel
theorem dX11_single_29 : decode cX11_single 29 = .ok (.aload_n 0, 1) := by decide +kernel
theorem dX11_single_30 : decode cX11_single 30 = .ok (.invokevirtual 172, 3) := by decide +kernel
theorem dX11_single_33 : decode cX11_single 33 = .ok (.return_, 1) := by decide +kernel
theorem dX11_single_34 : decode cX11_single 34 = .ok (.aload_n 0, 1) := by decide +kernel
theorem dX11_single_35 : decode cX11_single 35 = .ok (.iload_n 1, 1) := by decide +kernel
theorem dX11_single_36 : decode cX11_single 36 = .ok (.iload_n 1, 1) := by decide +kernel
theorem dX11_single_37 : decode cX11_single 37 = .ok (.bipush 22, 2) := by decide +kernel
theorem dX11_single_39 : decode cX11_single 39 = .ok (.ishr, 1) := by decide +kernel
theorem dX11_single_40 : decode cX11_single 40 = .ok (.iconst 1, 1) := by decide +kernel
theorem dX11_single_41 : decode cX11_single 41 = .ok (.iand, 1) := by decide +kernel
theorem dX11_single_42 : decode cX11_single 42 = .ok (.iconst 1, 1) := by decide +kernel
theorem dX11_single_43 : decode cX11_single 43 = .ok (.if_icmp .ne 7, 3) := by decide +kernel
theorem dX11_single_46 : decode cX11_single 46 = .ok (.iconst 1, 1) := by decide +kernel
theorem dX11_single_47 : decode cX11_single 47 = .ok (.goto 4, 3) := by decide +kernel
theorem dX11_single_50 : decode cX11_single 50 = .ok (.iconst 4, 1) := by decide +kernel
theorem dX11_single_51 : decode cX11_single 51 = .ok (.iload_n 2, 1) := by decide +kernel
theorem dX11_single_52 : decode cX11_single 52 = .ok (.ifCond .eq 30, 3) := by decide +kernel
theorem dX11_single_55 : decode cX11_single 55 = .ok (.aload_n 0, 1) := by decide +kernel
theorem dX11_single_56 : decode cX11_single 56 = .ok (.iload_n 1, 1) := by decide +kernel
theorem dX11_single_57 : decode cX11_single 57 = .ok (.iconst 5, 1) := by decide +kernel
theorem dX11_single_58 : decode cX11_single 58 = .ok (.ishr, 1) := by decide +kernel
theorem dX11_single_59 : decode cX11_single 59 = .ok (.iconst 3, 1) := by decide +kernel
theorem dX11_single_60 : decode cX11_single 60 = .ok (.iand, 1) := by decide +kernel
theorem dX11_single_61 : decode cX11_single 61 = .ok (.aload_n 0, 1) := by decide +kernel
theorem dX11_single_62 : decode cX11_single 62 = .ok (.iload_n 1, 1) := by decide +kernel
theorem dX11_single_63 : decode cX11_single 63 = .ok (.bipush 15, 2) := by decide +kernel
theorem dX11_single_65 : decode cX11_single 65 = .ok (.iand, 1) := by decide +kernel
theorem dX11_single_66 : decode cX11_single 66 = .ok (.invokevirtual 193, 3) := by decide +kernel
theorem dX11_single_69 : decode cX11_single 69 = .ok (.iload_n 1, 1) := by decide +kernel
theorem dX11_single_70 : decode cX11_single 70 = .ok (.bipush 7, 2) := by decide +kernel
theorem dX11_single_72 : decode cX11_single 72 = .ok (.ishr, 1) := by decide +kernel
theorem dX11_single_73 : decode cX11_single 73 = .ok (.bipush 31, 2) := by decide +kernel
theorem dX11_single_75 : decode cX11_single 75 = .ok (.iand, 1) := by decide +kernel
theorem dX11_single_76 : decode cX11_single 76 = .ok (.invokevirtual 178, 3) := by decide +kernel
theorem dX11_single_79 : decode cX11_single 79 = .ok (.goto 8, 3) := by decide +kernel
theorem dX11_single_82 : decode cX11_single 82 = .ok (.iload_n 1, 1) := by decide +kernel
theorem dX11_single_83 : decode cX11_single 83 = .ok (.sipush 4095, 3) := by decide +kernel
theorem dX11_single_86 : decode cX11_single 86 = .ok (.iand, 1) := by decide +kernel
theorem dX11_single_87 : decode cX11_single 87 = .ok (.invokevirtual 231, 3) := by decide +kernel
theorem dX11_single_90 : decode cX11_single 90 = .ok (.return_, 1) := by decide +kernel
theorem dX11_isStatus_0 : decode cX11_isStatus 0 = .ok (.iload_n 0, 1) := by decide +kernel
theorem dX11_isStatus_1 : decode cX11_isStatus 1 = .ok (.bipush 26, 2) := by decide +kernel
theorem dX11_isStatus_3 : decode cX11_isStatus 3 = .ok (.ishr, 1) := by decide +kernel
theorem dX11_isStatus_4 : decode cX11_isStatus 4 = .ok (.iconst 3, 1) := by decide +kernel
theorem dX11_isStatus_5 : decode cX11_isStatus 5 = .ok (.iand, 1) := by decide +kernel
theorem dX11_isStatus_6 : decode cX11_isStatus 6 = .ok (.ifCond .ne 39, 3) := by decide +kernel
theorem dX11_isStatus_9 : decode cX11_isStatus 9 = .ok (.iload_n 0, 1) := by decide +kernel
theorem dX11_isStatus_10 : decode cX11_isStatus 10 = .ok (.bipush 23, 2) := by decide +kernel
theorem dX11_isStatus_12 : decode cX11_isStatus 12 = .ok (.ishr, 1) := by decide +kernel
theorem dX11_isStatus_13 : decode cX11_isStatus 13 = .ok (.iconst 3, 1) := by decide +kernel
theorem dX11_isStatus_14 : decode cX11_isStatus 14 = .ok (.iand, 1) := by decide +kernel
theorem dX11_isStatus_15 : decode cX11_isStatus 15 = .ok (.iconst 2, 1) := by decide +kernel
theorem dX11_isStatus_16 : decode cX11_isStatus 16 = .ok (.if_icmp .ne 29, 3) := by decide +kernel
theorem dX11_isStatus_19 : decode cX11_isStatus 19 = .ok (.iload_n 0, 1) := by decide +kernel
theorem dX11_isStatus_20 : decode cX11_isStatus 20 = .ok (.bipush 20, 2) := by decide +kernel
theorem dX11_isStatus_22 : decode cX11_isStatus 22 = .ok (.ishr, 1) := by decide +kernel
theorem dX11_isStatus_23 : decode cX11_isStatus 23 = .ok (.iconst 3, 1) := by decide +kernel
theorem dX11_isStatus_24 : decode cX11_isStatus 24 = .ok (.iand, 1) := by decide +kernel
theorem dX11_isStatus_25 : decode cX11_isStatus 25 = .ok (.iconst 2, 1) := by decide +kernel
theorem dX11_isStatus_26 : decode cX11_isStatus 26 = .ok (.if_icmp .ne 19, 3) := by decide +kernel
theorem dX11_isStatus_29 : decode cX11_isStatus 29 = .ok (.iload_n 0, 1) := by decide +kernel
theorem dX11_isStatus_30 : decode cX11_isStatus 30 = .ok (.bipush 12, 2) := by decide +kernel
theorem dX11_isStatus_32 : decode cX11_isStatus 32 = .ok (.ishr, 1) := by decide +kernel
theorem dX11_isStatus_33 : decode cX11_isStatus 33 = .ok (.bipush 15, 2) := by decide +kernel
theorem dX11_isStatus_35 : decode cX11_isStatus 35 = .ok (.iand, 1) := by decide +kernel
theorem dX11_isStatus_36 : decode cX11_isStatus 36 = .ok (.bipush 15, 2) := by decide +kernel
theorem dX11_isStatus_38 : decode cX11_isStatus 38 = .ok (.if_icmp .ne 7, 3) := by decide +kernel
theorem dX11_isStatus_41 : decode cX11_isStatus 41 = .ok (.iconst 1, 1) := by decide +kernel
theorem dX11_isStatus_42 : decode cX11_isStatus 42 = .ok (.goto 4, 3) := by decide +kernel
theorem dX11_isStatus_45 : decode cX11_isStatus 45 = .ok (.iconst 0, 1) := by decide +kernel
theorem dX11_isStatus_46 : decode cX11_isStatus 46 = .ok (.istore_n 1, 1) := by decide +kernel
theorem dX11_isStatus_47 : decode cX11_isStatus 47 = .ok (.iload_n 1, 1) := by decide +kernel
theorem dX11_isStatus_48 : decode cX11_isStatus 48 = .ok (.ifCond .eq 27, 3) := by decide +kernel
theorem dX11_isStatus_51 : decode cX11_isStatus 51 = .ok (.iload_n 0, 1) := by decide +kernel
theorem dX11_isStatus_52 : decode cX11_isStatus 52 = .ok (.bipush 25, 2) := by decide +kernel
theorem dX11_isStatus_54 : decode cX11_isStatus 54 = .ok (.ishr, 1) := by decide +kernel
theorem dX11_isStatus_55 : decode cX11_isStatus 55 = .ok (.iconst 1, 1) := by decide +kernel
theorem dX11_isStatus_56 : decode cX11_isStatus 56 = .ok (.iand, 1) := by decide +kernel
theorem dX11_isStatus_57 : decode cX11_isStatus 57 = .ok (.iconst 1, 1) := by decide +kernel
theorem dX11_isStatus_58 : decode cX11_isStatus 58 = .ok (.if_icmp .eq 13, 3) := by decide +kernel
theorem dX11_isStatus_61 : decode cX11_isStatus 61 = .ok (.iload_n 0, 1) := by decide +kernel
theorem dX11_isStatus_62 : decode cX11_isStatus 62 = .ok (.iconst 4, 1) := by decide +kernel
theorem dX11_isStatus_63 : decode cX11_isStatus 63 = .ok (.ishr, 1) := by decide +kernel
theorem dX11_isStatus_64 : decode cX11_isStatus 64 = .ok (.sipush 255, 3) := by decide +kernel
theorem dX11_isStatus_67 : decode cX11_isStatus 67 = .ok (.iand, 1) := by decide +kernel
theorem dX11_isStatus_68 : decode cX11_isStatus 68 = .ok (.ifCond .ne 7, 3) := by decide +kernel
theorem dX11_isStatus_71 : decode cX11_isStatus 71 = .ok (.iconst 1, 1) := by decide +kernel
theorem dX11_isStatus_72 : decode cX11_isStatus 72 = .ok (.goto 4, 3) := by decide +kernel
theorem dX11_isStatus_75 : decode cX11_isStatus 75 = .ok (.iconst 0, 1) := by decide +kernel
theorem dX11_isStatus_76 : decode cX11_isStatus 76 = .ok (.ireturn, 1) := by decide +kernel
theorem dX11_toStatus_0 : decode cX11_toStatus 0 = .ok (.iload_n 1, 1) := by decide +kernel
theorem dX11_toStatus_1 : decode cX11_toStatus 1 = .ok (.bipush 25, 2) := by decide +kernel
theorem dX11_toStatus_3 : decode cX11_toStatus 3 = .ok (.ishr, 1) := by decide +kernel
theorem dX11_toStatus_4 : decode cX11_toStatus 4 = .ok (.iconst 1, 1) := by decide +kernel
theorem dX11_toStatus_5 : decode cX11_toStatus 5 = .ok (.iand, 1) := by decide +kernel
theorem dX11_toStatus_6 : decode cX11_toStatus 6 = .ok (.iconst 1, 1) := by decide +kernel
theorem dX11_toStatus_7 : decode cX11_toStatus 7 = .ok (.if_icmp .ne 11, 3) := by decide +kernel
theorem dX11_toStatus_10 : decode cX11_toStatus 10 = .ok (.aload_n 0, 1) := by decide +kernel
theorem dX11_toStatus_11 : decode cX11_toStatus 11 = .ok (.iload_n 1, 1) := by decide +kernel
theorem dX11_toStatus_12 : decode cX11_toStatus 12 = .ok (.invokevirtual 175, 3) := by decide +kernel
theorem dX11_toStatus_15 : decode cX11_toStatus 15 = .ok (.goto 11, 3) := by decide +kernel
theorem dX11_toStatus_18 : decode cX11_toStatus 18 = .ok (.aload_n 0, 1) := by decide +kernel
theorem dX11_toStatus_19 : decode cX11_toStatus 19 = .ok (.iload_n 1, 1) := by decide +kernel
theorem dX11_toStatus_20 : decode cX11_toStatus 20 = .ok (.bipush 15, 2) := by decide +kernel
theorem dX11_toStatus_22 : decode cX11_toStatus 22 = .ok (.iand, 1) := by decide +kernel
theorem dX11_toStatus_23 : decode cX11_toStatus 23 = .ok (.invokevirtual 193, 3) := by decide +kernel
theorem dX11_toStatus_26 : decode cX11_toStatus 26 = .ok (.istore_n 2, 1) := by decide +kernel
theorem dX11_toStatus_27 : decode cX11_toStatus 27 = .ok (.iload_n 1, 1) := by decide +kernel
theorem dX11_toStatus_28 : decode cX11_toStatus 28 = .ok (.bipush 22, 2) := by decide +kernel
theorem dX11_toStatus_30 : decode cX11_toStatus 30 = .ok (.ishr, 1) := by decide +kernel
theorem dX11_toStatus_31 : decode cX11_toStatus 31 = .ok (.iconst 1, 1) := by decide +kernel
theorem dX11_toStatus_32 : decode cX11_toStatus 32 = .ok (.iand, 1) := by decide +kernel
theorem dX11_toStatus_33 : decode cX11_toStatus 33 = .ok (.iconst 1, 1) := by decide +kernel
theorem dX11_toStatus_34 : decode cX11_toStatus 34 = .ok (.if_icmp .ne 7, 3) := by decide +kernel
theorem dX11_toStatus_37 : decode cX11_toStatus 37 = .ok (.iconst 1, 1) := by decide +kernel
theorem dX11_toStatus_38 : decode cX11_toStatus 38 = .ok (.goto 4, 3) := by decide +kernel
theorem dX11_toStatus_41 : decode cX11_toStatus 41 = .ok (.iconst 0, 1) := by decide +kernel
theorem dX11_toStatus_42 : decode cX11_toStatus 42 = .ok (.istore_n 3, 1) := by decide +kernel
theorem dX11_toStatus_43 : decode cX11_toStatus 43 = .ok (.iload_n 1, 1) := by decide +kernel
theorem dX11_toStatus_44 : decode cX11_toStatus 44 = .ok (.bipush 19, 2) := by decide +kernel
theorem dX11_toStatus_46 : decode cX11_toStatus 46 = .ok (.ishr, 1) := by decide +kernel
theorem dX11_toStatus_47 : decode cX11_toStatus 47 = .ok (.iconst 1, 1) := by decide +kernel
theorem dX11_toStatus_48 : decode cX11_toStatus 48 = .ok (.iand, 1) := by decide +kernel
theorem dX11_toStatus_49 : decode cX11_toStatus 49 = .ok (.iconst 1, 1) := by decide +kernel
theorem dX11_toStatus_50 : decode cX11_toStatus 50 = .ok (.if_icmp .ne 8, 3) := by decide +kernel
theorem dX11_toStatus_53 : decode cX11_toStatus 53 = .ok (.ldc 234, 2) := by decide +kernel
theorem dX11_toStatus_55 : decode cX11_toStatus 55 = .ok (.goto 4, 3) := by decide +kernel
theorem dX11_toStatus_58 : decode cX11_toStatus 58 = .ok (.iconst 0, 1) := by decide +kernel
theorem dX11_toStatus_59 : decode cX11_toStatus 59 = .ok (.iload_n 1, 1) := by decide +kernel
theorem dX11_toStatus_60 : decode cX11_toStatus 60 = .ok (.bipush 16, 2) := by decide +kernel
theorem dX11_toStatus_62 : decode cX11_toStatus 62 = .ok (.ishr, 1) := by decide +kernel
theorem dX11_toStatus_63 : decode cX11_toStatus 63 = .ok (.iconst 1, 1) := by decide +kernel
theorem dX11_toStatus_64 : decode cX11_toStatus 64 = .ok (.iand, 1) := by decide +kernel
theorem dX11_toStatus_65 : decode cX11_toStatus 65 = .ok (.iconst 1, 1) := by decide +kernel
theorem dX11_toStatus_66 : decode cX11_toStatus 66 = .ok (.if_icmp .ne 9, 3) := by decide +kernel
theorem dX11_toStatus_69 : decode cX11_toStatus 69 = .ok (.sipush 255, 3) := by decide +kernel
theorem dX11_toStatus_72 : decode cX11_toStatus 72 = .ok (.goto 4, 3) := by decide +kernel
theorem dX11_toStatus_75 : decode cX11_toStatus 75 = .ok (.iconst 0, 1) := by decide +kernel
theorem dX11_toStatus_76 : decode cX11_toStatus 76 = .ok (.ior, 1) := by decide +kernel
theorem dX11_toStatus_77 : decode cX11_toStatus 77 = .ok (.istore 4, 2) := by decide +kernel
theorem dX11_toStatus_79 : decode cX11_toStatus 79 = .ok (.iload_n 3, 1) := by decide +kernel
theorem dX11_toStatus_80 : decode cX11_toStatus 80 = .ok (.ifCond .eq 39, 3) := by decide +kernel
theorem dX11_toStatus_83 : decode cX11_toStatus 83 = .ok (.aload_n 0, 1) := by decide +kernel
theorem dX11_toStatus_84 : decode cX11_toStatus 84 = .ok (.invokevirtual 67, 3) := by decide +kernel
theorem dX11_toStatus_87 : decode cX11_toStatus 87 = .ok (.ifCond .eq 74, 3) := by decide +kernel
theorem dX11_toStatus_90 : decode cX11_toStatus 90 = .ok (.aload_n 0, 1) := by decide +kernel
theorem dX11_toStatus_91 : decode cX11_toStatus 91 = .ok (.getfield 17, 3) := by decide +kernel
theorem dX11_toStatus_94 : decode cX11_toStatus 94 = .ok (.aload_n 0, 1) := by decide +kernel
theorem dX11_toStatus_95 : decode cX11_toStatus 95 = .ok (.invokevirtual 38, 3) := by decide +kernel
theorem dX11_toStatus_98 : decode cX11_toStatus 98 = .ok (.invokestatic 34, 3) := by decide +kernel
theorem dX11_toStatus_101 : decode cX11_toStatus 101 = .ok (.aload_n 0, 1) := by decide +kernel
theorem dX11_toStatus_102 : decode cX11_toStatus 102 = .ok (.invokevirtual 181, 3) := by decide +kernel
theorem dX11_toStatus_105 : decode cX11_toStatus 105 = .ok (.iload 4, 2) := by decide +kernel
theorem dX11_toStatus_107 : decode cX11_toStatus 107 = .ok (.iconst (-1), 1) := by decide +kernel
theorem dX11_toStatus_108 : decode cX11_toStatus 108 = .ok (.ixor, 1) := by decide +kernel
theorem dX11_toStatus_109 : decode cX11_toStatus 109 = .ok (.iand, 1) := by decide +kernel
theorem dX11_toStatus_110 : decode cX11_toStatus 110 = .ok (.iload_n 2, 1) := by decide +kernel
theorem dX11_toStatus_111 : decode cX11_toStatus 111 = .ok (.iload 4, 2) := by decide +kernel
theorem dX11_toStatus_113 : decode cX11_toStatus 113 = .ok (.iand, 1) := by decide +kernel
theorem dX11_toStatus_114 : decode cX11_toStatus 114 = .ok (.ior, 1) := by decide +kernel
theorem dX11_toStatus_115 : decode cX11_toStatus 115 = .ok (.iastore, 1) := by decide +kernel
theorem dX11_toStatus_116 : decode cX11_toStatus 116 = .ok (.goto 45, 3) := by decide +kernel
theorem dX11_toStatus_119 : decode cX11_toStatus 119 = .ok (.aload_n 0, 1) := by decide +kernel
theorem dX11_toStatus_120 : decode cX11_toStatus 120 = .ok (.invokevirtual 38, 3) := by decide +kernel
theorem dX11_toStatus_123 : decode cX11_toStatus 123 = .ok (.bipush 16, 2) := by decide +kernel
theorem dX11_toStatus_125 : decode cX11_toStatus 125 = .ok (.if_icmp .ne 11, 3) := by decide +kernel
theorem dX11_toStatus_128 : decode cX11_toStatus 128 = .ok (.iload 4, 2) := by decide +kernel
theorem dX11_toStatus_130 : decode cX11_toStatus 130 = .ok (.ldc 234, 2) := by decide +kernel
theorem dX11_toStatus_132 : decode cX11_toStatus 132 = .ok (.iand, 1) := by decide +kernel
theorem dX11_toStatus_133 : decode cX11_toStatus 133 = .ok (.goto 8, 3) := by decide +kernel
theorem dX11_toStatus_136 : decode cX11_toStatus 136 = .ok (.iload 4, 2) := by decide +kernel
theorem dX11_toStatus_138 : decode cX11_toStatus 138 = .ok (.bipush (-33), 2) := by decide +kernel
theorem dX11_toStatus_140 : decode cX11_toStatus 140 = .ok (.iand, 1) := by decide +kernel
theorem dX11_toStatus_141 : decode cX11_toStatus 141 = .ok (.istore 4, 2) := by decide +kernel
theorem dX11_toStatus_143 : decode cX11_toStatus 143 = .ok (.aload_n 0, 1) := by decide +kernel
theorem dX11_toStatus_144 : decode cX11_toStatus 144 = .ok (.aload_n 0, 1) := by decide +kernel
theorem dX11_toStatus_145 : decode cX11_toStatus 145 = .ok (.getfield 20, 3) := by decide +kernel
theorem dX11_toStatus_148 : decode cX11_toStatus 148 = .ok (.iload 4, 2) := by decide +kernel
theorem dX11_toStatus_150 : decode cX11_toStatus 150 = .ok (.iconst (-1), 1) := by decide +kernel
theorem dX11_toStatus_151 : decode cX11_toStatus 151 = .ok (.ixor, 1) := by decide +kernel
theorem dX11_toStatus_152 : decode cX11_toStatus 152 = .ok (.iand, 1) := by decide +kernel
theorem dX11_toStatus_153 : decode cX11_toStatus 153 = .ok (.iload_n 2, 1) := by decide +kernel
theorem dX11_toStatus_154 : decode cX11_toStatus 154 = .ok (.iload 4, 2) := by decide +kernel
theorem dX11_toStatus_156 : decode cX11_toStatus 156 = .ok (.iand, 1) := by decide +kernel
theorem dX11_toStatus_157 : decode cX11_toStatus 157 = .ok (.ior, 1) := by decide +kernel
theorem dX11_toStatus_158 : decode cX11_toStatus 158 = .ok (.invokevirtual 85, 3) := by decide +kernel
theorem dX11_toStatus_161 : decode cX11_toStatus 161 = .ok (.return_, 1) := by decide +kernel
theorem dX11_countOf_0 : decode cX11_countOf 0 = .ok (.iconst 0, 1) := by decide +kernel
theorem dX11_countOf_1 : decode cX11_countOf 1 = .ok (.istore_n 1, 1) := by decide +kernel
theorem dX11_countOf_2 : decode cX11_countOf 2 = .ok (.iconst 0, 1) := by decide +kernel
theorem dX11_countOf_3 : decode cX11_countOf 3 = .ok (.istore_n 2, 1) := by decide +kernel
theorem dX11_countOf_4 : decode cX11_countOf 4 = .ok (.iload_n 2, 1) := by decide +kernel
theorem dX11_countOf_5 : decode cX11_countOf 5 = .ok (.bipush 16, 2) := by decide +kernel
theorem dX11_countOf_7 : decode cX11_countOf 7 = .ok (.if_icmp .ge 17, 3) := by decide +kernel
theorem dX11_countOf_10 : decode cX11_countOf 10 = .ok (.iload_n 1, 1) := by decide +kernel
theorem dX11_countOf_11 : decode cX11_countOf 11 = .ok (.iload_n 0, 1) := by decide +kernel
theorem dX11_countOf_12 : decode cX11_countOf 12 = .ok (.iload_n 2, 1) := by decide +kernel
theorem dX11_countOf_13 : decode cX11_countOf 13 = .ok (.ishr, 1) := by decide +kernel
theorem dX11_countOf_14 : decode cX11_countOf 14 = .ok (.iconst 1, 1) := by decide +kernel
theorem dX11_countOf_15 : decode cX11_countOf 15 = .ok (.iand, 1) := by decide +kernel
theorem dX11_countOf_16 : decode cX11_countOf 16 = .ok (.iadd, 1) := by decide +kernel
theorem dX11_countOf_17 : decode cX11_countOf 17 = .ok (.istore_n 1, 1) := by decide +kernel
theorem dX11_countOf_18 : decode cX11_countOf 18 = .ok (.iinc 2 1, 3) := by decide +kernel
theorem dX11_countOf_21 : decode cX11_countOf 21 = .ok (.goto (-17), 3) := by decide +kernel
theorem dX11_countOf_24 : decode cX11_countOf 24 = .ok (.iload_n 1, 1) := by decide +kernel
theorem dX11_countOf_25 : decode cX11_countOf 25 = .ok (.ireturn, 1) := by decide +kernel
theorem dX11_many_0 : decode cX11_many 0 = .ok (.iconst 4, 1) := by decide +kernel
theorem dX11_many_1 : decode cX11_many 1 = .ok (.iload_n 3, 1) := by decide +kernel
theorem dX11_many_2 : decode cX11_many 2 = .ok (.invokestatic 235, 3) := by decide +kernel
theorem dX11_many_5 : decode cX11_many 5 = .ok (.imul, 1) := by decide +kernel
theorem dX11_many_6 : decode cX11_many 6 = .ok (.istore 8, 2) := by decide +kernel
theorem dX11_many_8 : decode cX11_many 8 = .ok (.iload 8, 2) := by decide +kernel
theorem dX11_many_10 : decode cX11_many 10 = .ok (.ifCond .ne 4, 3) := by decide +kernel
theorem dX11_many_13 : decode cX11_many 13 = .ok (.return_, 1) := by decide +kernel
theorem dX11_many_14 : decode cX11_many 14 = .ok (.aload_n 0, 1) := by decide +kernel
theorem dX11_many_15 : decode cX11_many 15 = .ok (.iload_n 2, 1) := by decide +kernel
theorem dX11_many_16 : decode cX11_many 16 = .ok (.invokevirtual 193, 3) := by decide +kernel
theorem dX11_many_19 : decode cX11_many 19 = .ok (.istore 9, 2) := by decide +kernel
theorem dX11_many_21 : decode cX11_many 21 = .ok (.iload 4, 2) := by decide +kernel
theorem dX11_many_23 : decode cX11_many 23 = .ok (.ifCond .eq 20, 3) := by decide +kernel
theorem dX11_many_26 : decode cX11_many 26 = .ok (.iload 5, 2) := by decide +kernel
theorem dX11_many_28 : decode cX11_many 28 = .ok (.ifCond .eq 10, 3) := by decide +kernel
theorem dX11_many_31 : decode cX11_many 31 = .ok (.iload 9, 2) := by decide +kernel
theorem dX11_many_33 : decode cX11_many 33 = .ok (.iconst 4, 1) := by decide +kernel
theorem dX11_many_34 : decode cX11_many 34 = .ok (.iadd, 1) := by decide +kernel
theorem dX11_many_35 : decode cX11_many 35 = .ok (.goto 28, 3) := by decide +kernel
theorem dX11_many_38 : decode cX11_many 38 = .ok (.iload 9, 2) := by decide +kernel
theorem dX11_many_40 : decode cX11_many 40 = .ok (.goto 23, 3) := by decide +kernel
theorem dX11_many_43 : decode cX11_many 43 = .ok (.iload 5, 2) := by decide +kernel
theorem dX11_many_45 : decode cX11_many 45 = .ok (.ifCond .eq 11, 3) := by decide +kernel
theorem dX11_many_48 : decode cX11_many 48 = .ok (.iload 9, 2) := by decide +kernel
theorem dX11_many_50 : decode cX11_many 50 = .ok (.iload 8, 2) := by decide +kernel
theorem dX11_many_52 : decode cX11_many 52 = .ok (.isub, 1) := by decide +kernel
theorem dX11_many_53 : decode cX11_many 53 = .ok (.goto 10, 3) := by decide +kernel
theorem dX11_many_56 : decode cX11_many 56 = .ok (.iload 9, 2) := by decide +kernel
theorem dX11_many_58 : decode cX11_many 58 = .ok (.iload 8, 2) := by decide +kernel
theorem dX11_many_60 : decode cX11_many 60 = .ok (.isub, 1) := by decide +kernel
theorem dX11_many_61 : decode cX11_many 61 = .ok (.iconst 4, 1) := by decide +kernel
theorem dX11_many_62 : decode cX11_many 62 = .ok (.iadd, 1) := by decide +kernel
theorem dX11_many_63 : decode cX11_many 63 = .ok (.istore 10, 2) := by decide +kernel
theorem dX11_many_65 : decode cX11_many 65 = .ok (.iload_n 1, 1) := by decide +kernel
theorem dX11_many_66 : decode cX11_many 66 = .ok (.ifCond .eq 22, 3) := by decide +kernel
theorem dX11_many_69 : decode cX11_many 69 = .ok (.iload 7, 2) := by decide +kernel
theorem dX11_many_71 : decode cX11_many 71 = .ok (.ifCond .eq 17, 3) := by decide +kernel
theorem dX11_many_74 : decode cX11_many 74 = .ok (.iload_n 3, 1) := by decide +kernel
theorem dX11_many_75 : decode cX11_many 75 = .ok (.bipush 15, 2) := by decide +kernel
theorem dX11_many_77 : decode cX11_many 77 = .ok (.ishr, 1) := by decide +kernel
theorem dX11_many_78 : decode cX11_many 78 = .ok (.iconst 1, 1) := by decide +kernel
theorem dX11_many_79 : decode cX11_many 79 = .ok (.iand, 1) := by decide +kernel
theorem dX11_many_80 : decode cX11_many 80 = .ok (.iconst 1, 1) := by decide +kernel
theorem dX11_many_81 : decode cX11_many 81 = .ok (.if_icmp .ne 7, 3) := by decide +kernel
theorem dX11_many_84 : decode cX11_many 84 = .ok (.iconst 1, 1) := by decide +kernel
theorem dX11_many_85 : decode cX11_many 85 = .ok (.goto 4, 3) := by decide +kernel
theorem dX11_many_88 : decode cX11_many 88 = .ok (.iconst 0, 1) := by decide +kernel
theorem dX11_many_89 : decode cX11_many 89 = .ok (.istore 11, 2) := by decide +kernel
theorem dX11_many_91 : decode cX11_many 91 = .ok (.iload 7, 2) := by decide +kernel
theorem dX11_many_93 : decode cX11_many 93 = .ok (.ifCond .eq 13, 3) := by decide +kernel
theorem dX11_many_96 : decode cX11_many 96 = .ok (.iload 11, 2) := by decide +kernel
theorem dX11_many_98 : decode cX11_many 98 = .ok (.ifCond .ne 8, 3) := by decide +kernel
theorem dX11_many_101 : decode cX11_many 101 = .ok (.bipush 16, 2) := by decide +kernel
theorem dX11_many_103 : decode cX11_many 103 = .ok (.goto 7, 3) := by decide +kernel
theorem dX11_many_106 : decode cX11_many 106 = .ok (.aload_n 0, 1) := by decide +kernel
theorem dX11_many_107 : decode cX11_many 107 = .ok (.invokevirtual 38, 3) := by decide +kernel
theorem dX11_many_110 : decode cX11_many 110 = .ok (.istore 12, 2) := by decide +kernel
theorem dX11_many_112 : decode cX11_many 112 = .ok (.iload 10, 2) := by decide +kernel
theorem dX11_many_114 : decode cX11_many 114 = .ok (.bipush (-4), 2) := by decide +kernel
theorem dX11_many_116 : decode cX11_many 116 = .ok (.iand, 1) := by decide +kernel
theorem dX11_many_117 : decode cX11_many 117 = .ok (.istore 10, 2) := by decide +kernel
theorem dX11_many_119 : decode cX11_many 119 = .ok (.iconst 0, 1) := by decide +kernel
theorem dX11_many_120 : decode cX11_many 120 = .ok (.istore 13, 2) := by decide +kernel
theorem dX11_many_122 : decode cX11_many 122 = .ok (.iload 13, 2) := by decide +kernel
theorem dX11_many_124 : decode cX11_many 124 = .ok (.iload 8, 2) := by decide +kernel
theorem dX11_many_126 : decode cX11_many 126 = .ok (.if_icmp .ge 62, 3) := by decide +kernel
theorem dX11_many_129 : decode cX11_many 129 = .ok (.aload_n 0, 1) := by decide +kernel
theorem dX11_many_130 : decode cX11_many 130 = .ok (.getfield 103, 3) := by decide +kernel
theorem dX11_many_133 : decode cX11_many 133 = .ok (.ifCond .ge 55, 3) := by decide +kernel
theorem dX11_many_136 : decode cX11_many 136 = .ok (.iload 10, 2) := by decide +kernel
theorem dX11_many_138 : decode cX11_many 138 = .ok (.iload 13, 2) := by decide +kernel
theorem dX11_many_140 : decode cX11_many 140 = .ok (.iadd, 1) := by decide +kernel
theorem dX11_many_141 : decode cX11_many 141 = .ok (.invokestatic 106, 3) := by decide +kernel
theorem dX11_many_144 : decode cX11_many 144 = .ok (.ifCond .ne 11, 3) := by decide +kernel
theorem dX11_many_147 : decode cX11_many 147 = .ok (.aload_n 0, 1) := by decide +kernel
theorem dX11_many_148 : decode cX11_many 148 = .ok (.iconst 3, 1) := by decide +kernel
theorem dX11_many_149 : decode cX11_many 149 = .ok (.putfield 103, 3) := by decide +kernel
theorem dX11_many_152 : decode cX11_many 152 = .ok (.goto 30, 3) := by decide +kernel
theorem dX11_many_155 : decode cX11_many 155 = .ok (.iload_n 1, 1) := by decide +kernel
theorem dX11_many_156 : decode cX11_many 156 = .ok (.ifCond .ne 26, 3) := by decide +kernel
theorem dX11_many_159 : decode cX11_many 159 = .ok (.aload_n 0, 1) := by decide +kernel
theorem dX11_many_160 : decode cX11_many 160 = .ok (.getfield 8, 3) := by decide +kernel
theorem dX11_many_163 : decode cX11_many 163 = .ok (.iload 10, 2) := by decide +kernel
theorem dX11_many_165 : decode cX11_many 165 = .ok (.iload 13, 2) := by decide +kernel
theorem dX11_many_167 : decode cX11_many 167 = .ok (.iadd, 1) := by decide +kernel
theorem dX11_many_168 : decode cX11_many 168 = .ok (.iconst 4, 1) := by decide +kernel
theorem dX11_many_169 : decode cX11_many 169 = .ok (.idiv, 1) := by decide +kernel
theorem dX11_many_170 : decode cX11_many 170 = .ok (.aload_n 0, 1) := by decide +kernel
theorem dX11_many_171 : decode cX11_many 171 = .ok (.iload_n 3, 1) := by decide +kernel
theorem dX11_many_172 : decode cX11_many 172 = .ok (.iload 13, 2) := by decide +kernel
theorem dX11_many_174 : decode cX11_many 174 = .ok (.iconst 4, 1) := by decide +kernel
theorem dX11_many_175 : decode cX11_many 175 = .ok (.idiv, 1) := by decide +kernel
theorem dX11_many_176 : decode cX11_many 176 = .ok (.iload 12, 2) := by decide +kernel
theorem dX11_many_178 : decode cX11_many 178 = .ok (.invokevirtual 238, 3) := by decide +kernel
theorem dX11_many_181 : decode cX11_many 181 = .ok (.iastore, 1) := by decide +kernel
theorem dX11_many_182 : decode cX11_many 182 = .ok (.iinc 13 4, 3) := by decide +kernel
theorem dX11_many_185 : decode cX11_many 185 = .ok (.goto (-63), 3) := by decide +kernel
theorem dX11_many_188 : decode cX11_many 188 = .ok (.aload_n 0, 1) := by decide +kernel
theorem dX11_many_189 : decode cX11_many 189 = .ok (.getfield 103, 3) := by decide +kernel
theorem dX11_many_192 : decode cX11_many 192 = .ok (.ifCond .lt 4, 3) := by decide +kernel
theorem dX11_many_195 : decode cX11_many 195 = .ok (.return_, 1) := by decide +kernel
theorem dX11_many_196 : decode cX11_many 196 = .ok (.iload 6, 2) := by decide +kernel
theorem dX11_many_198 : decode cX11_many 198 = .ok (.ifCond .eq 32, 3) := by decide +kernel
theorem dX11_many_201 : decode cX11_many 201 = .ok (.iload_n 2, 1) := by decide +kernel
theorem dX11_many_202 : decode cX11_many 202 = .ok (.bipush 15, 2) := by decide +kernel
theorem dX11_many_204 : decode cX11_many 204 = .ok (.if_icmp .eq 26, 3) := by decide +kernel
theorem dX11_many_207 : decode cX11_many 207 = .ok (.aload_n 0, 1) := by decide +kernel
theorem dX11_many_208 : decode cX11_many 208 = .ok (.iload_n 2, 1) := by decide +kernel
theorem dX11_many_209 : decode cX11_many 209 = .ok (.iload 4, 2) := by decide +kernel
theorem dX11_many_211 : decode cX11_many 211 = .ok (.ifCond .eq 11, 3) := by decide +kernel
theorem dX11_many_214 : decode cX11_many 214 = .ok (.iload 9, 2) := by decide +kernel
theorem dX11_many_216 : decode cX11_many 216 = .ok (.iload 8, 2) := by decide +kernel
theorem dX11_many_218 : decode cX11_many 218 = .ok (.iadd, 1) := by decide +kernel
theorem dX11_many_219 : decode cX11_many 219 = .ok (.goto 8, 3) := by decide +kernel
theorem dX11_many_222 : decode cX11_many 222 = .ok (.iload 9, 2) := by decide +kernel
theorem dX11_many_224 : decode cX11_many 224 = .ok (.iload 8, 2) := by decide +kernel
theorem dX11_many_226 : decode cX11_many 226 = .ok (.isub, 1) := by decide +kernel
theorem dX11_many_227 : decode cX11_many 227 = .ok (.invokevirtual 135, 3) := by decide +kernel
theorem dX11_many_230 : decode cX11_many 230 = .ok (.iload_n 1, 1) := by decide +kernel
theorem dX11_many_231 : decode cX11_many 231 = .ok (.ifCond .eq 14, 3) := by decide +kernel
theorem dX11_many_234 : decode cX11_many 234 = .ok (.aload_n 0, 1) := by decide +kernel
theorem dX11_many_235 : decode cX11_many 235 = .ok (.iload 10, 2) := by decide +kernel
theorem dX11_many_237 : decode cX11_many 237 = .ok (.iload_n 3, 1) := by decide +kernel
theorem dX11_many_238 : decode cX11_many 238 = .ok (.iload 12, 2) := by decide +kernel
theorem dX11_many_240 : decode cX11_many 240 = .ok (.iload 11, 2) := by decide +kernel
theorem dX11_many_242 : decode cX11_many 242 = .ok (.invokevirtual 241, 3) := by decide +kernel
theorem dX11_many_245 : decode cX11_many 245 = .ok (.return_, 1) := by decide +kernel
theorem dX11_nth_0 : decode cX11_nth 0 = .ok (.iconst (-1), 1) := by decide +kernel
theorem dX11_nth_1 : decode cX11_nth 1 = .ok (.istore 4, 2) := by decide +kernel
theorem dX11_nth_3 : decode cX11_nth 3 = .ok (.iload_n 2, 1) := by decide +kernel
theorem dX11_nth_4 : decode cX11_nth 4 = .ok (.istore 5, 2) := by decide +kernel
theorem dX11_nth_6 : decode cX11_nth 6 = .ok (.iload 5, 2) := by decide +kernel
theorem dX11_nth_8 : decode cX11_nth 8 = .ok (.ifCond .lt 20, 3) := by decide +kernel
theorem dX11_nth_11 : decode cX11_nth 11 = .ok (.iinc 4 1, 3) := by decide +kernel
theorem dX11_nth_14 : decode cX11_nth 14 = .ok (.iload 5, 2) := by decide +kernel
theorem dX11_nth_16 : decode cX11_nth 16 = .ok (.iload_n 1, 1) := by decide +kernel
theorem dX11_nth_17 : decode cX11_nth 17 = .ok (.iload 4, 2) := by decide +kernel
theorem dX11_nth_19 : decode cX11_nth 19 = .ok (.ishr, 1) := by decide +kernel
theorem dX11_nth_20 : decode cX11_nth 20 = .ok (.iconst 1, 1) := by decide +kernel
theorem dX11_nth_21 : decode cX11_nth 21 = .ok (.iand, 1) := by decide +kernel
theorem dX11_nth_22 : decode cX11_nth 22 = .ok (.isub, 1) := by decide +kernel
theorem dX11_nth_23 : decode cX11_nth 23 = .ok (.istore 5, 2) := by decide +kernel
theorem dX11_nth_25 : decode cX11_nth 25 = .ok (.goto (-19), 3) := by decide +kernel
theorem dX11_nth_28 : decode cX11_nth 28 = .ok (.iload 4, 2) := by decide +kernel
theorem dX11_nth_30 : decode cX11_nth 30 = .ok (.bipush 15, 2) := by decide +kernel
theorem dX11_nth_32 : decode cX11_nth 32 = .ok (.if_icmp .ne 13, 3) := by decide +kernel
theorem dX11_nth_35 : decode cX11_nth 35 = .ok (.aload_n 0, 1) := by decide +kernel
theorem dX11_nth_36 : decode cX11_nth 36 = .ok (.getfield 46, 3) := by decide +kernel
theorem dX11_nth_39 : decode cX11_nth 39 = .ok (.bipush 12, 2) := by decide +kernel
theorem dX11_nth_41 : decode cX11_nth 41 = .ok (.iadd, 1) := by decide +kernel
theorem dX11_nth_42 : decode cX11_nth 42 = .ok (.goto 14, 3) := by decide +kernel
theorem dX11_nth_45 : decode cX11_nth 45 = .ok (.aload_n 0, 1) := by decide +kernel
theorem dX11_nth_46 : decode cX11_nth 46 = .ok (.getfield 14, 3) := by decide +kernel
theorem dX11_nth_49 : decode cX11_nth 49 = .ok (.iload_n 3, 1) := by decide +kernel
theorem dX11_nth_50 : decode cX11_nth 50 = .ok (.iload 4, 2) := by decide +kernel
theorem dX11_nth_52 : decode cX11_nth 52 = .ok (.invokestatic 42, 3) := by decide +kernel
theorem dX11_nth_55 : decode cX11_nth 55 = .ok (.iaload, 1) := by decide +kernel
theorem dX11_nth_56 : decode cX11_nth 56 = .ok (.ireturn, 1) := by decide +kernel
theorem dX11_loadAll_0 : decode cX11_loadAll 0 = .ok (.iload_n 1, 1) := by decide +kernel
theorem dX11_loadAll_1 : decode cX11_loadAll 1 = .ok (.istore 5, 2) := by decide +kernel
theorem dX11_loadAll_3 : decode cX11_loadAll 3 = .ok (.iconst 0, 1) := by decide +kernel
theorem dX11_loadAll_4 : decode cX11_loadAll 4 = .ok (.istore 6, 2) := by decide +kernel
theorem dX11_loadAll_6 : decode cX11_loadAll 6 = .ok (.iload 6, 2) := by decide +kernel
theorem dX11_loadAll_8 : decode cX11_loadAll 8 = .ok (.bipush 15, 2) := by decide +kernel
theorem dX11_loadAll_10 : decode cX11_loadAll 10 = .ok (.if_icmp .ge 42, 3) := by decide +kernel
theorem dX11_loadAll_13 : decode cX11_loadAll 13 = .ok (.iload_n 2, 1) := by decide +kernel
theorem dX11_loadAll_14 : decode cX11_loadAll 14 = .ok (.iload 6, 2) := by decide +kernel
