theorem dX9_loadMany_60 : decode cX9_loadMany 60 = .ok (.iload 5, 2) := by decide +kernel
theorem dX9_loadMany_62 : decode cX9_loadMany 62 = .ok (.iload_n 3, 1) := by decide +kernel
theorem dX9_loadMany_63 : decode cX9_loadMany 63 = .ok (.invokevirtual 81, 3) := by decide +kernel
theorem dX9_loadMany_66 : decode cX9_loadMany 66 = .ok (.iload_n 1, 1) := by decide +kernel
theorem dX9_loadMany_67 : decode cX9_loadMany 67 = .ok (.bipush 22, 2) := by decide +kernel
theorem dX9_loadMany_69 : decode cX9_loadMany 69 = .ok (.invokestatic 31, 3) := by decide +kernel
theorem dX9_loadMany_72 : decode cX9_loadMany 72 = .ok (.istore 6, 2) := by decide +kernel
theorem dX9_loadMany_74 : decode cX9_loadMany 74 = .ok (.iload_n 1, 1) := by decide +kernel
theorem dX9_loadMany_75 : decode cX9_loadMany 75 = .ok (.bipush 15, 2) := by decide +kernel
theorem dX9_loadMany_77 : decode cX9_loadMany 77 = .ok (.invokestatic 31, 3) := by decide +kernel
theorem dX9_loadMany_80 : decode cX9_loadMany 80 = .ok (.istore 7, 2) := by decide +kernel
theorem dX9_loadMany_82 : decode cX9_loadMany 82 = .ok (.iload 6, 2) := by decide +kernel
theorem dX9_loadMany_84 : decode cX9_loadMany 84 = .ok (.ifCond .eq 12, 3) := by decide +kernel
theorem dX9_loadMany_87 : decode cX9_loadMany 87 = .ok (.iload 7, 2) := by decide +kernel
theorem dX9_loadMany_89 : decode cX9_loadMany 89 = .ok (.ifCond .ne 7, 3) := by decide +kernel
theorem dX9_loadMany_92 : decode cX9_loadMany 92 = .ok (.iconst 0, 1) := by decide +kernel
theorem dX9_loadMany_93 : decode cX9_loadMany 93 = .ok (.goto 10, 3) := by decide +kernel
theorem dX9_loadMany_96 : decode cX9_loadMany 96 = .ok (.aload_n 0, 1) := by decide +kernel
theorem dX9_loadMany_97 : decode cX9_loadMany 97 = .ok (.getfield 15, 3) := by decide +kernel
theorem dX9_loadMany_100 : decode cX9_loadMany 100 = .ok (.invokevirtual 71, 3) := by decide +kernel
theorem dX9_loadMany_103 : decode cX9_loadMany 103 = .ok (.istore 8, 2) := by decide +kernel
theorem dX9_loadMany_105 : decode cX9_loadMany 105 = .ok (.iload_n 2, 1) := by decide +kernel
theorem dX9_loadMany_106 : decode cX9_loadMany 106 = .ok (.istore 9, 2) := by decide +kernel
theorem dX9_loadMany_108 : decode cX9_loadMany 108 = .ok (.iconst 0, 1) := by decide +kernel
theorem dX9_loadMany_109 : decode cX9_loadMany 109 = .ok (.istore 10, 2) := by decide +kernel
theorem dX9_loadMany_111 : decode cX9_loadMany 111 = .ok (.iload 10, 2) := by decide +kernel
theorem dX9_loadMany_113 : decode cX9_loadMany 113 = .ok (.bipush 15, 2) := by decide +kernel
theorem dX9_loadMany_115 : decode cX9_loadMany 115 = .ok (.if_icmp .ge 41, 3) := by decide +kernel
theorem dX9_loadMany_118 : decode cX9_loadMany 118 = .ok (.iload_n 1, 1) := by decide +kernel
theorem dX9_loadMany_119 : decode cX9_loadMany 119 = .ok (.iload 10, 2) := by decide +kernel
theorem dX9_loadMany_121 : decode cX9_loadMany 121 = .ok (.invokestatic 31, 3) := by decide +kernel
theorem dX9_loadMany_124 : decode cX9_loadMany 124 = .ok (.ifCond .eq 26, 3) := by decide +kernel
theorem dX9_loadMany_127 : decode cX9_loadMany 127 = .ok (.aload_n 0, 1) := by decide +kernel
theorem dX9_loadMany_128 : decode cX9_loadMany 128 = .ok (.getfield 15, 3) := by decide +kernel
theorem dX9_loadMany_131 : decode cX9_loadMany 131 = .ok (.iload 8, 2) := by decide +kernel
theorem dX9_loadMany_133 : decode cX9_loadMany 133 = .ok (.iload 10, 2) := by decide +kernel
theorem dX9_loadMany_135 : decode cX9_loadMany 135 = .ok (.aload_n 0, 1) := by decide +kernel
theorem dX9_loadMany_136 : decode cX9_loadMany 136 = .ok (.getfield 9, 3) := by decide +kernel
theorem dX9_loadMany_139 : decode cX9_loadMany 139 = .ok (.iload 9, 2) := by decide +kernel
theorem dX9_loadMany_141 : decode cX9_loadMany 141 = .ok (.invokevirtual 84, 3) := by decide +kernel
theorem dX9_loadMany_144 : decode cX9_loadMany 144 = .ok (.invokevirtual 81, 3) := by decide +kernel
theorem dX9_loadMany_147 : decode cX9_loadMany 147 = .ok (.iinc 9 4, 3) := by decide +kernel
theorem dX9_loadMany_150 : decode cX9_loadMany 150 = .ok (.iinc 10 1, 3) := by decide +kernel
theorem dX9_loadMany_153 : decode cX9_loadMany 153 = .ok (.goto (-42), 3) := by decide +kernel
theorem dX9_loadMany_156 : decode cX9_loadMany 156 = .ok (.iload 7, 2) := by decide +kernel
theorem dX9_loadMany_158 : decode cX9_loadMany 158 = .ok (.ifCond .eq 38, 3) := by decide +kernel
theorem dX9_loadMany_161 : decode cX9_loadMany 161 = .ok (.iload 6, 2) := by decide +kernel
theorem dX9_loadMany_163 : decode cX9_loadMany 163 = .ok (.ifCond .eq 17, 3) := by decide +kernel
theorem dX9_loadMany_166 : decode cX9_loadMany 166 = .ok (.aload_n 0, 1) := by decide +kernel
theorem dX9_loadMany_167 : decode cX9_loadMany 167 = .ok (.getfield 15, 3) := by decide +kernel
theorem dX9_loadMany_170 : decode cX9_loadMany 170 = .ok (.aload_n 0, 1) := by decide +kernel
theorem dX9_loadMany_171 : decode cX9_loadMany 171 = .ok (.getfield 15, 3) := by decide +kernel
theorem dX9_loadMany_174 : decode cX9_loadMany 174 = .ok (.invokevirtual 87, 3) := by decide +kernel
theorem dX9_loadMany_177 : decode cX9_loadMany 177 = .ok (.invokevirtual 90, 3) := by decide +kernel
theorem dX9_loadMany_180 : decode cX9_loadMany 180 = .ok (.aload_n 0, 1) := by decide +kernel
theorem dX9_loadMany_181 : decode cX9_loadMany 181 = .ok (.getfield 15, 3) := by decide +kernel
theorem dX9_loadMany_184 : decode cX9_loadMany 184 = .ok (.aload_n 0, 1) := by decide +kernel
theorem dX9_loadMany_185 : decode cX9_loadMany 185 = .ok (.getfield 9, 3) := by decide +kernel
theorem dX9_loadMany_188 : decode cX9_loadMany 188 = .ok (.iload 9, 2) := by decide +kernel
theorem dX9_loadMany_190 : decode cX9_loadMany 190 = .ok (.invokevirtual 84, 3) := by decide +kernel
theorem dX9_loadMany_193 : decode cX9_loadMany 193 = .ok (.invokevirtual 94, 3) := by decide +kernel
theorem dX9_loadMany_196 : decode cX9_loadMany 196 = .ok (.iconst (-1), 1) := by decide +kernel
theorem dX9_loadMany_197 : decode cX9_loadMany 197 = .ok (.ireturn, 1) := by decide +kernel
theorem dX10_init_0 : decode cX10_init 0 = .ok (.aload_n 0, 1) := by decide +kernel
theorem dX10_init_1 : decode cX10_init 1 = .ok (.invokespecial 1, 3) := by decide +kernel
theorem dX10_init_4 : decode cX10_init 4 = .ok (.aload_n 0, 1) := by decide +kernel
theorem dX10_init_5 : decode cX10_init 5 = .ok (.new 7, 3) := by decide +kernel
theorem dX10_init_8 : decode cX10_init 8 = .ok (.dup, 1) := by decide +kernel
theorem dX10_init_9 : decode cX10_init 9 = .ok (.invokespecial 9, 3) := by decide +kernel
theorem dX10_init_12 : decode cX10_init 12 = .ok (.putfield 10, 3) := by decide +kernel
theorem dX10_init_15 : decode cX10_init 15 = .ok (.aload_n 0, 1) := by decide +kernel
theorem dX10_init_16 : decode cX10_init 16 = .ok (.new 16, 3) := by decide +kernel
theorem dX10_init_19 : decode cX10_init 19 = .ok (.dup, 1) := by decide +kernel
theorem dX10_init_20 : decode cX10_init 20 = .ok (.invokespecial 18, 3) := by decide +kernel
theorem dX10_init_23 : decode cX10_init 23 = .ok (.putfield 19, 3) := by decide +kernel
theorem dX10_init_26 : decode cX10_init 26 = .ok (.aload_n 0, 1) := by decide +kernel
theorem dX10_init_27 : decode cX10_init 27 = .ok (.new 23, 3) := by decide +kernel
theorem dX10_init_30 : decode cX10_init 30 = .ok (.dup, 1) := by decide +kernel
theorem dX10_init_31 : decode cX10_init 31 = .ok (.aload_n 0, 1) := by decide +kernel
theorem dX10_init_32 : decode cX10_init 32 = .ok (.getfield 10, 3) := by decide +kernel
theorem dX10_init_35 : decode cX10_init 35 = .ok (.aload_n 0, 1) := by decide +kernel
theorem dX10_init_36 : decode cX10_init 36 = .ok (.getfield 19, 3) := by decide +kernel
theorem dX10_init_39 : decode cX10_init 39 = .ok (.invokespecial 25, 3) := by decide +kernel
theorem dX10_init_42 : decode cX10_init 42 = .ok (.putfield 28, 3) := by decide +kernel
theorem dX10_init_45 : decode cX10_init 45 = .ok (.return_, 1) := by decide +kernel
theorem dX10_poke_0 : decode cX10_poke 0 = .ok (.aload_n 0, 1) := by decide +kernel
theorem dX10_poke_1 : decode cX10_poke 1 = .ok (.iload_n 1, 1) := by decide +kernel
theorem dX10_poke_2 : decode cX10_poke 2 = .ok (.invokevirtual 32, 3) := by decide +kernel
theorem dX10_poke_5 : decode cX10_poke 5 = .ok (.aload_n 0, 1) := by decide +kernel
theorem dX10_poke_6 : decode cX10_poke 6 = .ok (.getfield 10, 3) := by decide +kernel
theorem dX10_poke_9 : decode cX10_poke 9 = .ok (.iload_n 1, 1) := by decide +kernel
theorem dX10_poke_10 : decode cX10_poke 10 = .ok (.invokevirtual 36, 3) := by decide +kernel
theorem dX10_poke_13 : decode cX10_poke 13 = .ok (.istore_n 3, 1) := by decide +kernel
theorem dX10_poke_14 : decode cX10_poke 14 = .ok (.aload_n 0, 1) := by decide +kernel
theorem dX10_poke_15 : decode cX10_poke 15 = .ok (.getfield 10, 3) := by decide +kernel
theorem dX10_poke_18 : decode cX10_poke 18 = .ok (.iload_n 1, 1) := by decide +kernel
theorem dX10_poke_19 : decode cX10_poke 19 = .ok (.iload_n 2, 1) := by decide +kernel
theorem dX10_poke_20 : decode cX10_poke 20 = .ok (.invokevirtual 40, 3) := by decide +kernel
theorem dX10_poke_23 : decode cX10_poke 23 = .ok (.iload_n 3, 1) := by decide +kernel
theorem dX10_poke_24 : decode cX10_poke 24 = .ok (.ireturn, 1) := by decide +kernel
theorem dX10_peek_0 : decode cX10_peek 0 = .ok (.aload_n 0, 1) := by decide +kernel
theorem dX10_peek_1 : decode cX10_peek 1 = .ok (.iload_n 1, 1) := by decide +kernel
theorem dX10_peek_2 : decode cX10_peek 2 = .ok (.invokevirtual 32, 3) := by decide +kernel
theorem dX10_peek_5 : decode cX10_peek 5 = .ok (.aload_n 0, 1) := by decide +kernel
theorem dX10_peek_6 : decode cX10_peek 6 = .ok (.getfield 10, 3) := by decide +kernel
theorem dX10_peek_9 : decode cX10_peek 9 = .ok (.iload_n 1, 1) := by decide +kernel
theorem dX10_peek_10 : decode cX10_peek 10 = .ok (.invokevirtual 36, 3) := by decide +kernel
theorem dX10_peek_13 : decode cX10_peek 13 = .ok (.ireturn, 1) := by decide +kernel
theorem dX10_set_0 : decode cX10_set 0 = .ok (.iload_n 1, 1) := by decide +kernel
theorem dX10_set_1 : decode cX10_set 1 = .ok (.invokestatic 44, 3) := by decide +kernel
theorem dX10_set_4 : decode cX10_set 4 = .ok (.istore 4, 2) := by decide +kernel
theorem dX10_set_6 : decode cX10_set 6 = .ok (.iload 4, 2) := by decide +kernel
theorem dX10_set_8 : decode cX10_set 8 = .ok (.iload_n 2, 1) := by decide +kernel
theorem dX10_set_9 : decode cX10_set 9 = .ok (.invokestatic 47, 3) := by decide +kernel
theorem dX10_set_12 : decode cX10_set 12 = .ok (.iload_n 2, 1) := by decide +kernel
theorem dX10_set_13 : decode cX10_set 13 = .ok (.bipush 15, 2) := by decide +kernel
theorem dX10_set_15 : decode cX10_set 15 = .ok (.if_icmp .ne 14, 3) := by decide +kernel
theorem dX10_set_18 : decode cX10_set 18 = .ok (.aload_n 0, 1) := by decide +kernel
theorem dX10_set_19 : decode cX10_set 19 = .ok (.getfield 19, 3) := by decide +kernel
theorem dX10_set_22 : decode cX10_set 22 = .ok (.iload_n 3, 1) := by decide +kernel
theorem dX10_set_23 : decode cX10_set 23 = .ok (.invokevirtual 50, 3) := by decide +kernel
theorem dX10_set_26 : decode cX10_set 26 = .ok (.goto 14, 3) := by decide +kernel
theorem dX10_set_29 : decode cX10_set 29 = .ok (.aload_n 0, 1) := by decide +kernel
theorem dX10_set_30 : decode cX10_set 30 = .ok (.getfield 19, 3) := by decide +kernel
theorem dX10_set_33 : decode cX10_set 33 = .ok (.iload 4, 2) := by decide +kernel
theorem dX10_set_35 : decode cX10_set 35 = .ok (.iload_n 2, 1) := by decide +kernel
theorem dX10_set_36 : decode cX10_set 36 = .ok (.iload_n 3, 1) := by decide +kernel
theorem dX10_set_37 : decode cX10_set 37 = .ok (.invokevirtual 53, 3) := by decide +kernel
theorem dX10_set_40 : decode cX10_set 40 = .ok (.return_, 1) := by decide +kernel
theorem dX10_get_0 : decode cX10_get 0 = .ok (.iload_n 1, 1) := by decide +kernel
theorem dX10_get_1 : decode cX10_get 1 = .ok (.invokestatic 44, 3) := by decide +kernel
theorem dX10_get_4 : decode cX10_get 4 = .ok (.istore_n 3, 1) := by decide +kernel
theorem dX10_get_5 : decode cX10_get 5 = .ok (.iload_n 3, 1) := by decide +kernel
theorem dX10_get_6 : decode cX10_get 6 = .ok (.iload_n 2, 1) := by decide +kernel
theorem dX10_get_7 : decode cX10_get 7 = .ok (.invokestatic 47, 3) := by decide +kernel
theorem dX10_get_10 : decode cX10_get 10 = .ok (.aload_n 0, 1) := by decide +kernel
theorem dX10_get_11 : decode cX10_get 11 = .ok (.getfield 19, 3) := by decide +kernel
theorem dX10_get_14 : decode cX10_get 14 = .ok (.iload_n 3, 1) := by decide +kernel
theorem dX10_get_15 : decode cX10_get 15 = .ok (.iload_n 2, 1) := by decide +kernel
theorem dX10_get_16 : decode cX10_get 16 = .ok (.invokevirtual 57, 3) := by decide +kernel
theorem dX10_get_19 : decode cX10_get 19 = .ok (.ireturn, 1) := by decide +kernel
theorem dX10_status_0 : decode cX10_status 0 = .ok (.aload_n 0, 1) := by decide +kernel
theorem dX10_status_1 : decode cX10_status 1 = .ok (.getfield 19, 3) := by decide +kernel
theorem dX10_status_4 : decode cX10_status 4 = .ok (.invokevirtual 61, 3) := by decide +kernel
theorem dX10_status_7 : decode cX10_status 7 = .ok (.istore_n 2, 1) := by decide +kernel
theorem dX10_status_8 : decode cX10_status 8 = .ok (.aload_n 0, 1) := by decide +kernel
theorem dX10_status_9 : decode cX10_status 9 = .ok (.getfield 19, 3) := by decide +kernel
theorem dX10_status_12 : decode cX10_status 12 = .ok (.iload_n 1, 1) := by decide +kernel
theorem dX10_status_13 : decode cX10_status 13 = .ok (.invokevirtual 65, 3) := by decide +kernel
theorem dX10_status_16 : decode cX10_status 16 = .ok (.aload_n 0, 1) := by decide +kernel
theorem dX10_status_17 : decode cX10_status 17 = .ok (.getfield 19, 3) := by decide +kernel
theorem dX10_status_20 : decode cX10_status 20 = .ok (.aload_n 0, 1) := by decide +kernel
theorem dX10_status_21 : decode cX10_status 21 = .ok (.getfield 19, 3) := by decide +kernel
theorem dX10_status_24 : decode cX10_status 24 = .ok (.invokevirtual 68, 3) := by decide +kernel
theorem dX10_status_27 : decode cX10_status 27 = .ok (.invokevirtual 50, 3) := by decide +kernel
theorem dX10_status_30 : decode cX10_status 30 = .ok (.iload_n 2, 1) := by decide +kernel
theorem dX10_status_31 : decode cX10_status 31 = .ok (.ireturn, 1) := by decide +kernel
theorem dX10_saved_0 : decode cX10_saved 0 = .ok (.iload_n 1, 1) := by decide +kernel
theorem dX10_saved_1 : decode cX10_saved 1 = .ok (.invokestatic 44, 3) := by decide +kernel
theorem dX10_saved_4 : decode cX10_saved 4 = .ok (.istore_n 3, 1) := by decide +kernel
theorem dX10_saved_5 : decode cX10_saved 5 = .ok (.iload_n 3, 1) := by decide +kernel
theorem dX10_saved_6 : decode cX10_saved 6 = .ok (.iconst (-1), 1) := by decide +kernel
theorem dX10_saved_7 : decode cX10_saved 7 = .ok (.if_icmp .eq 7, 3) := by decide +kernel
theorem dX10_saved_10 : decode cX10_saved 10 = .ok (.iload_n 3, 1) := by decide +kernel
theorem dX10_saved_11 : decode cX10_saved 11 = .ok (.ifCond .ne 13, 3) := by decide +kernel
theorem dX10_saved_14 : decode cX10_saved 14 = .ok (.new 71, 3) := by decide +kernel
theorem dX10_saved_17 : decode cX10_saved 17 = .ok (.dup, 1) := by decide +kernel
theorem dX10_saved_18 : decode cX10_saved 18 = .ok (.ldc 73, 2) := by decide +kernel
theorem dX10_saved_20 : decode cX10_saved 20 = .ok (.invokespecial 75, 3) := by decide +kernel
theorem dX10_saved_23 : decode cX10_saved 23 = .ok (.athrow, 1) := by decide +kernel
theorem dX10_saved_24 : decode cX10_saved 24 = .ok (.aload_n 0, 1) := by decide +kernel
theorem dX10_saved_25 : decode cX10_saved 25 = .ok (.getfield 19, 3) := by decide +kernel
theorem dX10_saved_28 : decode cX10_saved 28 = .ok (.iload_n 3, 1) := by decide +kernel
theorem dX10_saved_29 : decode cX10_saved 29 = .ok (.invokevirtual 78, 3) := by decide +kernel
theorem dX10_saved_32 : decode cX10_saved 32 = .ok (.istore 4, 2) := by decide +kernel
theorem dX10_saved_34 : decode cX10_saved 34 = .ok (.aload_n 0, 1) := by decide +kernel
theorem dX10_saved_35 : decode cX10_saved 35 = .ok (.getfield 19, 3) := by decide +kernel
theorem dX10_saved_38 : decode cX10_saved 38 = .ok (.iload_n 3, 1) := by decide +kernel
theorem dX10_saved_39 : decode cX10_saved 39 = .ok (.iload_n 2, 1) := by decide +kernel
theorem dX10_saved_40 : decode cX10_saved 40 = .ok (.invokevirtual 81, 3) := by decide +kernel
theorem dX10_saved_43 : decode cX10_saved 43 = .ok (.iload 4, 2) := by decide +kernel
theorem dX10_saved_45 : decode cX10_saved 45 = .ok (.ireturn, 1) := by decide +kernel
theorem dX10_line_0 : decode cX10_line 0 = .ok (.iload_n 1, 1) := by decide +kernel
theorem dX10_line_1 : decode cX10_line 1 = .ok (.ifCond .eq 18, 3) := by decide +kernel
theorem dX10_line_4 : decode cX10_line 4 = .ok (.iload_n 1, 1) := by decide +kernel
theorem dX10_line_5 : decode cX10_line 5 = .ok (.iconst 1, 1) := by decide +kernel
theorem dX10_line_6 : decode cX10_line 6 = .ok (.if_icmp .eq 13, 3) := by decide +kernel
theorem dX10_line_9 : decode cX10_line 9 = .ok (.new 84, 3) := by decide +kernel
theorem dX10_line_12 : decode cX10_line 12 = .ok (.dup, 1) := by decide +kernel
theorem dX10_line_13 : decode cX10_line 13 = .ok (.ldc 86, 2) := by decide +kernel
theorem dX10_line_15 : decode cX10_line 15 = .ok (.invokespecial 88, 3) := by decide +kernel
theorem dX10_line_18 : decode cX10_line 18 = .ok (.athrow, 1) := by decide +kernel
theorem dX10_line_19 : decode cX10_line 19 = .ok (.iload_n 1, 1) := by decide +kernel
theorem dX10_line_20 : decode cX10_line 20 = .ok (.iconst 1, 1) := by decide +kernel
theorem dX10_line_21 : decode cX10_line 21 = .ok (.if_icmp .ne 14, 3) := by decide +kernel
theorem dX10_line_24 : decode cX10_line 24 = .ok (.aload_n 0, 1) := by decide +kernel
theorem dX10_line_25 : decode cX10_line 25 = .ok (.getfield 28, 3) := by decide +kernel
theorem dX10_line_28 : decode cX10_line 28 = .ok (.iload_n 2, 1) := by decide +kernel
theorem dX10_line_29 : decode cX10_line 29 = .ok (.invokevirtual 89, 3) := by decide +kernel
theorem dX10_line_32 : decode cX10_line 32 = .ok (.goto 11, 3) := by decide +kernel
theorem dX10_line_35 : decode cX10_line 35 = .ok (.aload_n 0, 1) := by decide +kernel
theorem dX10_line_36 : decode cX10_line 36 = .ok (.getfield 28, 3) := by decide +kernel
theorem dX10_line_39 : decode cX10_line 39 = .ok (.iload_n 2, 1) := by decide +kernel
theorem dX10_line_40 : decode cX10_line 40 = .ok (.invokevirtual 93, 3) := by decide +kernel
theorem dX10_line_43 : decode cX10_line 43 = .ok (.ireturn, 1) := by decide +kernel
theorem dX10_step_0 : decode cX10_step 0 = .ok (.iload_n 1, 1) := by decide +kernel
theorem dX10_step_1 : decode cX10_step 1 = .ok (.iconst 1, 1) := by decide +kernel
theorem dX10_step_2 : decode cX10_step 2 = .ok (.if_icmp .lt 10, 3) := by decide +kernel
theorem dX10_step_5 : decode cX10_step 5 = .ok (.iload_n 1, 1) := by decide +kernel
theorem dX10_step_6 : decode cX10_step 6 = .ok (.sipush 20000, 3) := by decide +kernel
theorem dX10_step_9 : decode cX10_step 9 = .ok (.if_icmp .le 13, 3) := by decide +kernel
theorem dX10_step_12 : decode cX10_step 12 = .ok (.new 71, 3) := by decide +kernel
theorem dX10_step_15 : decode cX10_step 15 = .ok (.dup, 1) := by decide +kernel
theorem dX10_step_16 : decode cX10_step 16 = .ok (.ldc 96, 2) := by decide +kernel
theorem dX10_step_18 : decode cX10_step 18 = .ok (.invokespecial 75, 3) := by decide +kernel
theorem dX10_step_21 : decode cX10_step 21 = .ok (.athrow, 1) := by decide +kernel
theorem dX10_step_22 : decode cX10_step 22 = .ok (.iconst 0, 1) := by decide +kernel
theorem dX10_step_23 : decode cX10_step 23 = .ok (.istore_n 2, 1) := by decide +kernel
theorem dX10_step_24 : decode cX10_step 24 = .ok (.iconst 0, 1) := by decide +kernel
theorem dX10_step_25 : decode cX10_step 25 = .ok (.istore_n 3, 1) := by decide +kernel
theorem dX10_step_26 : decode cX10_step 26 = .ok (.iload_n 3, 1) := by decide +kernel
theorem dX10_step_27 : decode cX10_step 27 = .ok (.iload_n 1, 1) := by decide +kernel
theorem dX10_step_28 : decode cX10_step 28 = .ok (.if_icmp .ge 36, 3) := by decide +kernel
theorem dX10_step_31 : decode cX10_step 31 = .ok (.aload_n 0, 1) := by decide +kernel
theorem dX10_step_32 : decode cX10_step 32 = .ok (.getfield 28, 3) := by decide +kernel
theorem dX10_step_35 : decode cX10_step 35 = .ok (.invokevirtual 98, 3) := by decide +kernel
theorem dX10_step_38 : decode cX10_step 38 = .ok (.istore 4, 2) := by decide +kernel
theorem dX10_step_40 : decode cX10_step 40 = .ok (.iload 4, 2) := by decide +kernel
theorem dX10_step_42 : decode cX10_step 42 = .ok (.iconst (-1), 1) := by decide +kernel
theorem dX10_step_43 : decode cX10_step 43 = .ok (.if_icmp .eq 15, 3) := by decide +kernel
theorem dX10_step_46 : decode cX10_step 46 = .ok (.aload_n 0, 1) := by decide +kernel
theorem dX10_step_47 : decode cX10_step 47 = .ok (.getfield 28, 3) := by decide +kernel
theorem dX10_step_50 : decode cX10_step 50 = .ok (.iload 4, 2) := by decide +kernel
theorem dX10_step_52 : decode cX10_step 52 = .ok (.invokevirtual 101, 3) := by decide +kernel
theorem dX10_step_55 : decode cX10_step 55 = .ok (.iinc 2 1, 3) := by decide +kernel
theorem dX10_step_58 : decode cX10_step 58 = .ok (.iinc 3 1, 3) := by decide +kernel
theorem dX10_step_61 : decode cX10_step 61 = .ok (.goto (-35), 3) := by decide +kernel
theorem dX10_step_64 : decode cX10_step 64 = .ok (.iload_n 2, 1) := by decide +kernel
theorem dX10_step_65 : decode cX10_step 65 = .ok (.ireturn, 1) := by decide +kernel
theorem dX10_count_0 : decode cX10_count 0 = .ok (.iload_n 1, 1) := by decide +kernel
theorem dX10_count_1 : decode cX10_count 1 = .ok (.ifCond .lt 9, 3) := by decide +kernel
theorem dX10_count_4 : decode cX10_count 4 = .ok (.iload_n 1, 1) := by decide +kernel
theorem dX10_count_5 : decode cX10_count 5 = .ok (.bipush 7, 2) := by decide +kernel
theorem dX10_count_7 : decode cX10_count 7 = .ok (.if_icmp .le 13, 3) := by decide +kernel
theorem dX10_count_10 : decode cX10_count 10 = .ok (.new 84, 3) := by decide +kernel
theorem dX10_count_13 : decode cX10_count 13 = .ok (.dup, 1) := by decide +kernel
theorem dX10_count_14 : decode cX10_count 14 = .ok (.ldc 104, 2) := by decide +kernel
theorem dX10_count_16 : decode cX10_count 16 = .ok (.invokespecial 88, 3) := by decide +kernel
theorem dX10_count_19 : decode cX10_count 19 = .ok (.athrow, 1) := by decide +kernel
theorem dX10_count_20 : decode cX10_count 20 = .ok (.iload_n 1, 1) := by decide +kernel
theorem dX10_count_21 : decode cX10_count 21 = .ok (.bipush 7, 2) := by decide +kernel
theorem dX10_count_23 : decode cX10_count 23 = .ok (.if_icmp .ne 11, 3) := by decide +kernel
theorem dX10_count_26 : decode cX10_count 26 = .ok (.aload_n 0, 1) := by decide +kernel
theorem dX10_count_27 : decode cX10_count 27 = .ok (.getfield 19, 3) := by decide +kernel
theorem dX10_count_30 : decode cX10_count 30 = .ok (.invokevirtual 61, 3) := by decide +kernel
theorem dX10_count_33 : decode cX10_count 33 = .ok (.ireturn, 1) := by decide +kernel
theorem dX10_count_34 : decode cX10_count 34 = .ok (.iload_n 1, 1) := by decide +kernel
theorem dX10_count_35 : decode cX10_count 35 = .ok (.bipush 6, 2) := by decide +kernel
theorem dX10_count_37 : decode cX10_count 37 = .ok (.if_icmp .ne 13, 3) := by decide +kernel
theorem dX10_count_40 : decode cX10_count 40 = .ok (.aload_n 0, 1) := by decide +kernel
theorem dX10_count_41 : decode cX10_count 41 = .ok (.getfield 28, 3) := by decide +kernel
theorem dX10_count_44 : decode cX10_count 44 = .ok (.invokevirtual 106, 3) := by decide +kernel
theorem dX10_count_47 : decode cX10_count 47 = .ok (.goto 11, 3) := by decide +kernel
theorem dX10_count_50 : decode cX10_count 50 = .ok (.aload_n 0, 1) := by decide +kernel
theorem dX10_count_51 : decode cX10_count 51 = .ok (.getfield 28, 3) := by decide +kernel
theorem dX10_count_54 : decode cX10_count 54 = .ok (.iload_n 1, 1) := by decide +kernel
theorem dX10_count_55 : decode cX10_count 55 = .ok (.invokevirtual 109, 3) := by decide +kernel
theorem dX10_count_58 : decode cX10_count 58 = .ok (.ireturn, 1) := by decide +kernel
theorem dX10_refuseAddress_0 : decode cX10_refuseAddress 0 = .ok (.iload_n 1, 1) := by decide +kernel
theorem dX10_refuseAddress_1 : decode cX10_refuseAddress 1 = .ok (.iconst 3, 1) := by decide +kernel
theorem dX10_refuseAddress_2 : decode cX10_refuseAddress 2 = .ok (.iand, 1) := by decide +kernel
theorem dX10_refuseAddress_3 : decode cX10_refuseAddress 3 = .ok (.ifCond .eq 13, 3) := by decide +kernel
theorem dX10_refuseAddress_6 : decode cX10_refuseAddress 6 = .ok (.new 71, 3) := by decide +kernel
theorem dX10_refuseAddress_9 : decode cX10_refuseAddress 9 = .ok (.dup, 1) := by decide +kernel
theorem dX10_refuseAddress_10 : decode cX10_refuseAddress 10 = .ok (.ldc 112, 2) := by decide +kernel
theorem dX10_refuseAddress_12 : decode cX10_refuseAddress 12 = .ok (.invokespecial 75, 3) := by decide +kernel
theorem dX10_refuseAddress_15 : decode cX10_refuseAddress 15 = .ok (.athrow, 1) := by decide +kernel
theorem dX10_refuseAddress_16 : decode cX10_refuseAddress 16 = .ok (.aload_n 0, 1) := by decide +kernel
theorem dX10_refuseAddress_17 : decode cX10_refuseAddress 17 = .ok (.getfield 10, 3) := by decide +kernel
theorem dX10_refuseAddress_20 : decode cX10_refuseAddress 20 = .ok (.iload_n 1, 1) := by decide +kernel
theorem dX10_refuseAddress_21 : decode cX10_refuseAddress 21 = .ok (.invokevirtual 114, 3) := by decide +kernel
theorem dX10_refuseAddress_24 : decode cX10_refuseAddress 24 = .ok (.ifCond .ne 13, 3) := by decide +kernel
theorem dX10_refuseAddress_27 : decode cX10_refuseAddress 27 = .ok (.new 84, 3) := by decide +kernel
theorem dX10_refuseAddress_30 : decode cX10_refuseAddress 30 = .ok (.dup, 1) := by decide +kernel
theorem dX10_refuseAddress_31 : decode cX10_refuseAddress 31 = .ok (.ldc 118, 2) := by decide +kernel
theorem dX10_refuseAddress_33 : decode cX10_refuseAddress 33 = .ok (.invokespecial 88, 3) := by decide +kernel
theorem dX10_refuseAddress_36 : decode cX10_refuseAddress 36 = .ok (.athrow, 1) := by decide +kernel
theorem dX10_refuseAddress_37 : decode cX10_refuseAddress 37 = .ok (.return_, 1) := by decide +kernel
theorem dX10_refuseRegister_0 : decode cX10_refuseRegister 0 = .ok (.iload_n 0, 1) := by decide +kernel
theorem dX10_refuseRegister_1 : decode cX10_refuseRegister 1 = .ok (.iconst (-1), 1) := by decide +kernel
theorem dX10_refuseRegister_2 : decode cX10_refuseRegister 2 = .ok (.if_icmp .ne 13, 3) := by decide +kernel
theorem dX10_refuseRegister_5 : decode cX10_refuseRegister 5 = .ok (.new 71, 3) := by decide +kernel
theorem dX10_refuseRegister_8 : decode cX10_refuseRegister 8 = .ok (.dup, 1) := by decide +kernel
theorem dX10_refuseRegister_9 : decode cX10_refuseRegister 9 = .ok (.ldc 120, 2) := by decide +kernel
theorem dX10_refuseRegister_11 : decode cX10_refuseRegister 11 = .ok (.invokespecial 75, 3) := by decide +kernel
theorem dX10_refuseRegister_14 : decode cX10_refuseRegister 14 = .ok (.athrow, 1) := by decide +kernel
theorem dX10_refuseRegister_15 : decode cX10_refuseRegister 15 = .ok (.iload_n 1, 1) := by decide +kernel
theorem dX10_refuseRegister_16 : decode cX10_refuseRegister 16 = .ok (.ifCond .lt 9, 3) := by decide +kernel
theorem dX10_refuseRegister_19 : decode cX10_refuseRegister 19 = .ok (.iload_n 1, 1) := by decide +kernel
theorem dX10_refuseRegister_20 : decode cX10_refuseRegister 20 = .ok (.bipush 15, 2) := by decide +kernel
theorem dX10_refuseRegister_22 : decode cX10_refuseRegister 22 = .ok (.if_icmp .le 13, 3) := by decide +kernel
theorem dX10_refuseRegister_25 : decode cX10_refuseRegister 25 = .ok (.new 84, 3) := by decide +kernel
theorem dX10_refuseRegister_28 : decode cX10_refuseRegister 28 = .ok (.dup, 1) := by decide +kernel
theorem dX10_refuseRegister_29 : decode cX10_refuseRegister 29 = .ok (.ldc 122, 2) := by decide +kernel
theorem dX10_refuseRegister_31 : decode cX10_refuseRegister 31 = .ok (.invokespecial 88, 3) := by decide +kernel
theorem dX10_refuseRegister_34 : decode cX10_refuseRegister 34 = .ok (.athrow, 1) := by decide +kernel
theorem dX10_refuseRegister_35 : decode cX10_refuseRegister 35 = .ok (.return_, 1) := by decide +kernel
theorem dX11_init_0 : decode cX11_init 0 = .ok (.aload_n 0, 1) := by decide +kernel
theorem dX11_init_1 : decode cX11_init 1 = .ok (.invokespecial 1, 3) := by decide +kernel
theorem dX11_init_4 : decode cX11_init 4 = .ok (.aload_n 0, 1) := by decide +kernel
theorem dX11_init_5 : decode cX11_init 5 = .ok (.ldc 7, 2) := by decide +kernel
theorem dX11_init_7 : decode cX11_init 7 = .ok (.newarray .int, 2) := by decide +kernel
theorem dX11_init_9 : decode cX11_init 9 = .ok (.putfield 8, 3) := by decide +kernel
theorem dX11_init_12 : decode cX11_init 12 = .ok (.aload_n 0, 1) := by decide +kernel
theorem dX11_init_13 : decode cX11_init 13 = .ok (.bipush 31, 2) := by decide +kernel
theorem dX11_init_15 : decode cX11_init 15 = .ok (.newarray .int, 2) := by decide +kernel
theorem dX11_init_17 : decode cX11_init 17 = .ok (.putfield 14, 3) := by decide +kernel
theorem dX11_init_20 : decode cX11_init 20 = .ok (.aload_n 0, 1) := by decide +kernel
theorem dX11_init_21 : decode cX11_init 21 = .ok (.iconst 5, 1) := by decide +kernel
theorem dX11_init_22 : decode cX11_init 22 = .ok (.newarray .int, 2) := by decide +kernel
theorem dX11_init_24 : decode cX11_init 24 = .ok (.putfield 17, 3) := by decide +kernel
theorem dX11_init_27 : decode cX11_init 27 = .ok (.aload_n 0, 1) := by decide +kernel
theorem dX11_init_28 : decode cX11_init 28 = .ok (.sipush 211, 3) := by decide +kernel
theorem dX11_init_31 : decode cX11_init 31 = .ok (.putfield 20, 3) := by decide +kernel
theorem dX11_init_34 : decode cX11_init 34 = .ok (.aload_n 0, 1) := by decide +kernel
theorem dX11_init_35 : decode cX11_init 35 = .ok (.iconst 2, 1) := by decide +kernel
theorem dX11_init_36 : decode cX11_init 36 = .ok (.newarray .boolean, 2) := by decide +kernel
theorem dX11_init_38 : decode cX11_init 38 = .ok (.putfield 24, 3) := by decide +kernel
theorem dX11_init_41 : decode cX11_init 41 = .ok (.aload_n 0, 1) := by decide +kernel
theorem dX11_init_42 : decode cX11_init 42 = .ok (.bipush 6, 2) := by decide +kernel
theorem dX11_init_44 : decode cX11_init 44 = .ok (.newarray .int, 2) := by decide +kernel
theorem dX11_init_46 : decode cX11_init 46 = .ok (.putfield 28, 3) := by decide +kernel
theorem dX11_init_49 : decode cX11_init 49 = .ok (.return_, 1) := by decide +kernel
theorem dX11_thrown_0 : decode cX11_thrown 0 = .ok (.aload_n 0, 1) := by decide +kernel
theorem dX11_thrown_1 : decode cX11_thrown 1 = .ok (.getfield 31, 3) := by decide +kernel
theorem dX11_thrown_4 : decode cX11_thrown 4 = .ok (.ireturn, 1) := by decide +kernel
theorem dX11_fail_0 : decode cX11_fail 0 = .ok (.aload_n 0, 1) := by decide +kernel
theorem dX11_fail_1 : decode cX11_fail 1 = .ok (.iload_n 1, 1) := by decide +kernel
theorem dX11_fail_2 : decode cX11_fail 2 = .ok (.putfield 31, 3) := by decide +kernel
theorem dX11_fail_5 : decode cX11_fail 5 = .ok (.iconst 0, 1) := by decide +kernel
theorem dX11_fail_6 : decode cX11_fail 6 = .ok (.ireturn, 1) := by decide +kernel
theorem dX11_within_0 : decode cX11_within 0 = .ok (.iload_n 0, 1) := by decide +kernel
theorem dX11_within_1 : decode cX11_within 1 = .ok (.iload_n 1, 1) := by decide +kernel
theorem dX11_within_2 : decode cX11_within 2 = .ok (.if_icmp .lt 12, 3) := by decide +kernel
theorem dX11_within_5 : decode cX11_within 5 = .ok (.iload_n 0, 1) := by decide +kernel
theorem dX11_within_6 : decode cX11_within 6 = .ok (.iload_n 2, 1) := by decide +kernel
theorem dX11_within_7 : decode cX11_within 7 = .ok (.if_icmp .gt 7, 3) := by decide +kernel
theorem dX11_within_10 : decode cX11_within 10 = .ok (.iconst 1, 1) := by decide +kernel
theorem dX11_within_11 : decode cX11_within 11 = .ok (.goto 4, 3) := by decide +kernel
theorem dX11_within_14 : decode cX11_within 14 = .ok (.iconst 0, 1) := by decide +kernel
theorem dX11_within_15 : decode cX11_within 15 = .ok (.ireturn, 1) := by decide +kernel
theorem dX11_bank_0 : decode cX11_bank 0 = .ok (.iload_n 0, 1) := by decide +kernel
theorem dX11_bank_1 : decode cX11_bank 1 = .ok (.bipush 17, 2) := by decide +kernel
theorem dX11_bank_3 : decode cX11_bank 3 = .ok (.if_icmp .ne 7, 3) := by decide +kernel
theorem dX11_bank_6 : decode cX11_bank 6 = .ok (.iconst 0, 1) := by decide +kernel
theorem dX11_bank_7 : decode cX11_bank 7 = .ok (.goto 60, 3) := by decide +kernel
theorem dX11_bank_10 : decode cX11_bank 10 = .ok (.iload_n 0, 1) := by decide +kernel
theorem dX11_bank_11 : decode cX11_bank 11 = .ok (.bipush 18, 2) := by decide +kernel
theorem dX11_bank_13 : decode cX11_bank 13 = .ok (.if_icmp .ne 7, 3) := by decide +kernel
theorem dX11_bank_16 : decode cX11_bank 16 = .ok (.iconst 1, 1) := by decide +kernel
theorem dX11_bank_17 : decode cX11_bank 17 = .ok (.goto 50, 3) := by decide +kernel
theorem dX11_bank_20 : decode cX11_bank 20 = .ok (.iload_n 0, 1) := by decide +kernel
theorem dX11_bank_21 : decode cX11_bank 21 = .ok (.bipush 19, 2) := by decide +kernel
theorem dX11_bank_23 : decode cX11_bank 23 = .ok (.if_icmp .ne 7, 3) := by decide +kernel
theorem dX11_bank_26 : decode cX11_bank 26 = .ok (.iconst 2, 1) := by decide +kernel
theorem dX11_bank_27 : decode cX11_bank 27 = .ok (.goto 40, 3) := by decide +kernel
theorem dX11_bank_30 : decode cX11_bank 30 = .ok (.iload_n 0, 1) := by decide +kernel
theorem dX11_bank_31 : decode cX11_bank 31 = .ok (.bipush 23, 2) := by decide +kernel
theorem dX11_bank_33 : decode cX11_bank 33 = .ok (.if_icmp .ne 7, 3) := by decide +kernel
theorem dX11_bank_36 : decode cX11_bank 36 = .ok (.iconst 3, 1) := by decide +kernel
theorem dX11_bank_37 : decode cX11_bank 37 = .ok (.goto 30, 3) := by decide +kernel
theorem dX11_bank_40 : decode cX11_bank 40 = .ok (.iload_n 0, 1) := by decide +kernel
theorem dX11_bank_41 : decode cX11_bank 41 = .ok (.bipush 27, 2) := by decide +kernel
theorem dX11_bank_43 : decode cX11_bank 43 = .ok (.if_icmp .ne 7, 3) := by decide +kernel
theorem dX11_bank_46 : decode cX11_bank 46 = .ok (.iconst 4, 1) := by decide +kernel
theorem dX11_bank_47 : decode cX11_bank 47 = .ok (.goto 20, 3) := by decide +kernel
theorem dX11_bank_50 : decode cX11_bank 50 = .ok (.iload_n 0, 1) := by decide +kernel
theorem dX11_bank_51 : decode cX11_bank 51 = .ok (.bipush 16, 2) := by decide +kernel
theorem dX11_bank_53 : decode cX11_bank 53 = .ok (.if_icmp .eq 9, 3) := by decide +kernel
theorem dX11_bank_56 : decode cX11_bank 56 = .ok (.iload_n 0, 1) := by decide +kernel
theorem dX11_bank_57 : decode cX11_bank 57 = .ok (.bipush 31, 2) := by decide +kernel
theorem dX11_bank_59 : decode cX11_bank 59 = .ok (.if_icmp .ne 7, 3) := by decide +kernel
theorem dX11_bank_62 : decode cX11_bank 62 = .ok (.iconst 5, 1) := by decide +kernel
theorem dX11_bank_63 : decode cX11_bank 63 = .ok (.goto 4, 3) := by decide +kernel
theorem dX11_bank_66 : decode cX11_bank 66 = .ok (.iconst (-1), 1) := by decide +kernel
theorem dX11_bank_67 : decode cX11_bank 67 = .ok (.ireturn, 1) := by decide +kernel
theorem dX11_placeOf_0 : decode cX11_placeOf 0 = .ok (.iload_n 0, 1) := by decide +kernel
theorem dX11_placeOf_1 : decode cX11_placeOf 1 = .ok (.invokestatic 34, 3) := by decide +kernel
theorem dX11_placeOf_4 : decode cX11_placeOf 4 = .ok (.istore_n 2, 1) := by decide +kernel
theorem dX11_placeOf_5 : decode cX11_placeOf 5 = .ok (.iload_n 1, 1) := by decide +kernel
theorem dX11_placeOf_6 : decode cX11_placeOf 6 = .ok (.bipush 8, 2) := by decide +kernel
theorem dX11_placeOf_8 : decode cX11_placeOf 8 = .ok (.if_icmp .lt 14, 3) := by decide +kernel
theorem dX11_placeOf_11 : decode cX11_placeOf 11 = .ok (.iload_n 1, 1) := by decide +kernel
theorem dX11_placeOf_12 : decode cX11_placeOf 12 = .ok (.bipush 15, 2) := by decide +kernel
theorem dX11_placeOf_14 : decode cX11_placeOf 14 = .ok (.if_icmp .eq 8, 3) := by decide +kernel
theorem dX11_placeOf_17 : decode cX11_placeOf 17 = .ok (.iload_n 2, 1) := by decide +kernel
theorem dX11_placeOf_18 : decode cX11_placeOf 18 = .ok (.iconst 5, 1) := by decide +kernel
theorem dX11_placeOf_19 : decode cX11_placeOf 19 = .ok (.if_icmp .ne 5, 3) := by decide +kernel
theorem dX11_placeOf_22 : decode cX11_placeOf 22 = .ok (.iload_n 1, 1) := by decide +kernel
theorem dX11_placeOf_23 : decode cX11_placeOf 23 = .ok (.ireturn, 1) := by decide +kernel
theorem dX11_placeOf_24 : decode cX11_placeOf 24 = .ok (.iload_n 2, 1) := by decide +kernel
theorem dX11_placeOf_25 : decode cX11_placeOf 25 = .ok (.ifCond .ne 8, 3) := by decide +kernel
theorem dX11_placeOf_28 : decode cX11_placeOf 28 = .ok (.bipush 8, 2) := by decide +kernel
theorem dX11_placeOf_30 : decode cX11_placeOf 30 = .ok (.iload_n 1, 1) := by decide +kernel
theorem dX11_placeOf_31 : decode cX11_placeOf 31 = .ok (.iadd, 1) := by decide +kernel
theorem dX11_placeOf_32 : decode cX11_placeOf 32 = .ok (.ireturn, 1) := by decide +kernel
theorem dX11_placeOf_33 : decode cX11_placeOf 33 = .ok (.iload_n 1, 1) := by decide +kernel
theorem dX11_placeOf_34 : decode cX11_placeOf 34 = .ok (.bipush 13, 2) := by decide +kernel
theorem dX11_placeOf_36 : decode cX11_placeOf 36 = .ok (.if_icmp .ge 7, 3) := by decide +kernel
theorem dX11_placeOf_39 : decode cX11_placeOf 39 = .ok (.iload_n 1, 1) := by decide +kernel
theorem dX11_placeOf_40 : decode cX11_placeOf 40 = .ok (.goto 14, 3) := by decide +kernel
theorem dX11_placeOf_43 : decode cX11_placeOf 43 = .ok (.bipush 21, 2) := by decide +kernel
theorem dX11_placeOf_45 : decode cX11_placeOf 45 = .ok (.iconst 2, 1) := by decide +kernel
theorem dX11_placeOf_46 : decode cX11_placeOf 46 = .ok (.iload_n 2, 1) := by decide +kernel
theorem dX11_placeOf_47 : decode cX11_placeOf 47 = .ok (.imul, 1) := by decide +kernel
theorem dX11_placeOf_48 : decode cX11_placeOf 48 = .ok (.iadd, 1) := by decide +kernel
theorem dX11_placeOf_49 : decode cX11_placeOf 49 = .ok (.iload_n 1, 1) := by decide +kernel
theorem dX11_placeOf_50 : decode cX11_placeOf 50 = .ok (.iadd, 1) := by decide +kernel
theorem dX11_placeOf_51 : decode cX11_placeOf 51 = .ok (.bipush 13, 2) := by decide +kernel
theorem dX11_placeOf_53 : decode cX11_placeOf 53 = .ok (.isub, 1) := by decide +kernel
theorem dX11_placeOf_54 : decode cX11_placeOf 54 = .ok (.ireturn, 1) := by decide +kernel
theorem dX11_mode_0 : decode cX11_mode 0 = .ok (.aload_n 0, 1) := by decide +kernel
theorem dX11_mode_1 : decode cX11_mode 1 = .ok (.getfield 20, 3) := by decide +kernel
theorem dX11_mode_4 : decode cX11_mode 4 = .ok (.bipush 31, 2) := by decide +kernel
theorem dX11_mode_6 : decode cX11_mode 6 = .ok (.iand, 1) := by decide +kernel
theorem dX11_mode_7 : decode cX11_mode 7 = .ok (.ireturn, 1) := by decide +kernel
theorem dX11_isThumb_0 : decode cX11_isThumb 0 = .ok (.aload_n 0, 1) := by decide +kernel
theorem dX11_isThumb_1 : decode cX11_isThumb 1 = .ok (.getfield 20, 3) := by decide +kernel
theorem dX11_isThumb_4 : decode cX11_isThumb 4 = .ok (.bipush 32, 2) := by decide +kernel
theorem dX11_isThumb_6 : decode cX11_isThumb 6 = .ok (.iand, 1) := by decide +kernel
theorem dX11_isThumb_7 : decode cX11_isThumb 7 = .ok (.ifCond .eq 7, 3) := by decide +kernel
theorem dX11_isThumb_10 : decode cX11_isThumb 10 = .ok (.iconst 1, 1) := by decide +kernel
theorem dX11_isThumb_11 : decode cX11_isThumb 11 = .ok (.goto 4, 3) := by decide +kernel
theorem dX11_isThumb_14 : decode cX11_isThumb 14 = .ok (.iconst 0, 1) := by decide +kernel
theorem dX11_isThumb_15 : decode cX11_isThumb 15 = .ok (.ireturn, 1) := by decide +kernel
theorem dX11_at_0 : decode cX11_at 0 = .ok (.aload_n 0, 1) := by decide +kernel
theorem dX11_at_1 : decode cX11_at 1 = .ok (.getfield 14, 3) := by decide +kernel
theorem dX11_at_4 : decode cX11_at 4 = .ok (.aload_n 0, 1) := by decide +kernel
theorem dX11_at_5 : decode cX11_at 5 = .ok (.invokevirtual 38, 3) := by decide +kernel
theorem dX11_at_8 : decode cX11_at 8 = .ok (.iload_n 1, 1) := by decide +kernel
theorem dX11_at_9 : decode cX11_at 9 = .ok (.invokestatic 42, 3) := by decide +kernel
theorem dX11_at_12 : decode cX11_at 12 = .ok (.iaload, 1) := by decide +kernel
theorem dX11_at_13 : decode cX11_at 13 = .ok (.ireturn, 1) := by decide +kernel
theorem dX11_operand_0 : decode cX11_operand 0 = .ok (.iload_n 1, 1) := by decide +kernel
theorem dX11_operand_1 : decode cX11_operand 1 = .ok (.bipush 15, 2) := by decide +kernel
theorem dX11_operand_3 : decode cX11_operand 3 = .ok (.if_icmp .ne 12, 3) := by decide +kernel
theorem dX11_operand_6 : decode cX11_operand 6 = .ok (.aload_n 0, 1) := by decide +kernel
theorem dX11_operand_7 : decode cX11_operand 7 = .ok (.getfield 46, 3) := by decide +kernel
theorem dX11_operand_10 : decode cX11_operand 10 = .ok (.iload_n 2, 1) := by decide +kernel
theorem dX11_operand_11 : decode cX11_operand 11 = .ok (.iadd, 1) := by decide +kernel
theorem dX11_operand_12 : decode cX11_operand 12 = .ok (.goto 8, 3) := by decide +kernel
theorem dX11_operand_15 : decode cX11_operand 15 = .ok (.aload_n 0, 1) := by decide +kernel
theorem dX11_operand_16 : decode cX11_operand 16 = .ok (.iload_n 1, 1) := by decide +kernel
theorem dX11_operand_17 : decode cX11_operand 17 = .ok (.invokevirtual 49, 3) := by decide +kernel
theorem dX11_operand_20 : decode cX11_operand 20 = .ok (.ireturn, 1) := by decide +kernel
theorem dX11_value_0 : decode cX11_value 0 = .ok (.aload_n 0, 1) := by decide +kernel
theorem dX11_value_1 : decode cX11_value 1 = .ok (.iload_n 1, 1) := by decide +kernel
theorem dX11_value_2 : decode cX11_value 2 = .ok (.aload_n 0, 1) := by decide +kernel
theorem dX11_value_3 : decode cX11_value 3 = .ok (.invokevirtual 52, 3) := by decide +kernel
theorem dX11_value_6 : decode cX11_value 6 = .ok (.ifCond .eq 7, 3) := by decide +kernel
theorem dX11_value_9 : decode cX11_value 9 = .ok (.iconst 4, 1) := by decide +kernel
theorem dX11_value_10 : decode cX11_value 10 = .ok (.goto 5, 3) := by decide +kernel
theorem dX11_value_13 : decode cX11_value 13 = .ok (.bipush 8, 2) := by decide +kernel
theorem dX11_value_15 : decode cX11_value 15 = .ok (.invokevirtual 56, 3) := by decide +kernel
theorem dX11_value_18 : decode cX11_value 18 = .ok (.ireturn, 1) := by decide +kernel
theorem dX11_trimmed_0 : decode cX11_trimmed 0 = .ok (.iload_n 1, 1) := by decide +kernel
theorem dX11_trimmed_1 : decode cX11_trimmed 1 = .ok (.aload_n 0, 1) := by decide +kernel
theorem dX11_trimmed_2 : decode cX11_trimmed 2 = .ok (.invokevirtual 52, 3) := by decide +kernel
theorem dX11_trimmed_5 : decode cX11_trimmed 5 = .ok (.ifCond .eq 8, 3) := by decide +kernel
theorem dX11_trimmed_8 : decode cX11_trimmed 8 = .ok (.bipush (-2), 2) := by decide +kernel
theorem dX11_trimmed_10 : decode cX11_trimmed 10 = .ok (.goto 5, 3) := by decide +kernel
theorem dX11_trimmed_13 : decode cX11_trimmed 13 = .ok (.bipush (-4), 2) := by decide +kernel
theorem dX11_trimmed_15 : decode cX11_trimmed 15 = .ok (.iand, 1) := by decide +kernel
theorem dX11_trimmed_16 : decode cX11_trimmed 16 = .ok (.ireturn, 1) := by decide +kernel
theorem dX11_put_0 : decode cX11_put 0 = .ok (.iload_n 1, 1) := by decide +kernel
theorem dX11_put_1 : decode cX11_put 1 = .ok (.bipush 15, 2) := by decide +kernel
theorem dX11_put_3 : decode cX11_put 3 = .ok (.if_icmp .ne 23, 3) := by decide +kernel
theorem dX11_put_6 : decode cX11_put 6 = .ok (.aload_n 0, 1) := by decide +kernel
theorem dX11_put_7 : decode cX11_put 7 = .ok (.getfield 14, 3) := by decide +kernel
theorem dX11_put_10 : decode cX11_put 10 = .ok (.bipush 15, 2) := by decide +kernel
theorem dX11_put_12 : decode cX11_put 12 = .ok (.aload_n 0, 1) := by decide +kernel
theorem dX11_put_13 : decode cX11_put 13 = .ok (.iload_n 2, 1) := by decide +kernel
theorem dX11_put_14 : decode cX11_put 14 = .ok (.invokevirtual 59, 3) := by decide +kernel
theorem dX11_put_17 : decode cX11_put 17 = .ok (.iastore, 1) := by decide +kernel
theorem dX11_put_18 : decode cX11_put 18 = .ok (.aload_n 0, 1) := by decide +kernel
theorem dX11_put_19 : decode cX11_put 19 = .ok (.iconst 1, 1) := by decide +kernel
theorem dX11_put_20 : decode cX11_put 20 = .ok (.putfield 62, 3) := by decide +kernel
theorem dX11_put_23 : decode cX11_put 23 = .ok (.goto 17, 3) := by decide +kernel
theorem dX11_put_26 : decode cX11_put 26 = .ok (.aload_n 0, 1) := by decide +kernel
theorem dX11_put_27 : decode cX11_put 27 = .ok (.getfield 14, 3) := by decide +kernel
theorem dX11_put_30 : decode cX11_put 30 = .ok (.aload_n 0, 1) := by decide +kernel
theorem dX11_put_31 : decode cX11_put 31 = .ok (.invokevirtual 38, 3) := by decide +kernel
theorem dX11_put_34 : decode cX11_put 34 = .ok (.iload_n 1, 1) := by decide +kernel
theorem dX11_put_35 : decode cX11_put 35 = .ok (.invokestatic 42, 3) := by decide +kernel
theorem dX11_put_38 : decode cX11_put 38 = .ok (.iload_n 2, 1) := by decide +kernel
theorem dX11_put_39 : decode cX11_put 39 = .ok (.iastore, 1) := by decide +kernel
theorem dX11_put_40 : decode cX11_put 40 = .ok (.return_, 1) := by decide +kernel
theorem dX11_putStatus_0 : decode cX11_putStatus 0 = .ok (.iload_n 1, 1) := by decide +kernel
theorem dX11_putStatus_1 : decode cX11_putStatus 1 = .ok (.bipush 31, 2) := by decide +kernel
theorem dX11_putStatus_3 : decode cX11_putStatus 3 = .ok (.iand, 1) := by decide +kernel
theorem dX11_putStatus_4 : decode cX11_putStatus 4 = .ok (.invokestatic 34, 3) := by decide +kernel
theorem dX11_putStatus_7 : decode cX11_putStatus 7 = .ok (.ifCond .ge 10, 3) := by decide +kernel
theorem dX11_putStatus_10 : decode cX11_putStatus 10 = .ok (.aload_n 0, 1) := by decide +kernel
theorem dX11_putStatus_11 : decode cX11_putStatus 11 = .ok (.invokevirtual 38, 3) := by decide +kernel
theorem dX11_putStatus_14 : decode cX11_putStatus 14 = .ok (.goto 7, 3) := by decide +kernel
theorem dX11_putStatus_17 : decode cX11_putStatus 17 = .ok (.iload_n 1, 1) := by decide +kernel
theorem dX11_putStatus_18 : decode cX11_putStatus 18 = .ok (.bipush 31, 2) := by decide +kernel
theorem dX11_putStatus_20 : decode cX11_putStatus 20 = .ok (.iand, 1) := by decide +kernel
theorem dX11_putStatus_21 : decode cX11_putStatus 21 = .ok (.istore_n 2, 1) := by decide +kernel
theorem dX11_putStatus_22 : decode cX11_putStatus 22 = .ok (.aload_n 0, 1) := by decide +kernel
theorem dX11_putStatus_23 : decode cX11_putStatus 23 = .ok (.iload_n 1, 1) := by decide +kernel
theorem dX11_putStatus_24 : decode cX11_putStatus 24 = .ok (.ldc 66, 2) := by decide +kernel
theorem dX11_putStatus_26 : decode cX11_putStatus 26 = .ok (.iand, 1) := by decide +kernel
theorem dX11_putStatus_27 : decode cX11_putStatus 27 = .ok (.bipush (-32), 2) := by decide +kernel
theorem dX11_putStatus_29 : decode cX11_putStatus 29 = .ok (.iand, 1) := by decide +kernel
theorem dX11_putStatus_30 : decode cX11_putStatus 30 = .ok (.iload_n 2, 1) := by decide +kernel
theorem dX11_putStatus_31 : decode cX11_putStatus 31 = .ok (.ior, 1) := by decide +kernel
theorem dX11_putStatus_32 : decode cX11_putStatus 32 = .ok (.putfield 20, 3) := by decide +kernel
theorem dX11_putStatus_35 : decode cX11_putStatus 35 = .ok (.return_, 1) := by decide +kernel
theorem dX11_hasSaved_0 : decode cX11_hasSaved 0 = .ok (.aload_n 0, 1) := by decide +kernel
theorem dX11_hasSaved_1 : decode cX11_hasSaved 1 = .ok (.invokevirtual 38, 3) := by decide +kernel
theorem dX11_hasSaved_4 : decode cX11_hasSaved 4 = .ok (.invokestatic 34, 3) := by decide +kernel
theorem dX11_hasSaved_7 : decode cX11_hasSaved 7 = .ok (.iconst 5, 1) := by decide +kernel
theorem dX11_hasSaved_8 : decode cX11_hasSaved 8 = .ok (.if_icmp .ge 7, 3) := by decide +kernel
theorem dX11_hasSaved_11 : decode cX11_hasSaved 11 = .ok (.iconst 1, 1) := by decide +kernel
theorem dX11_hasSaved_12 : decode cX11_hasSaved 12 = .ok (.goto 4, 3) := by decide +kernel
theorem dX11_hasSaved_15 : decode cX11_hasSaved 15 = .ok (.iconst 0, 1) := by decide +kernel
theorem dX11_hasSaved_16 : decode cX11_hasSaved 16 = .ok (.ireturn, 1) := by decide +kernel
theorem dX11_kept_0 : decode cX11_kept 0 = .ok (.aload_n 0, 1) := by decide +kernel
theorem dX11_kept_1 : decode cX11_kept 1 = .ok (.invokevirtual 67, 3) := by decide +kernel
theorem dX11_kept_4 : decode cX11_kept 4 = .ok (.ifCond .eq 18, 3) := by decide +kernel
theorem dX11_kept_7 : decode cX11_kept 7 = .ok (.aload_n 0, 1) := by decide +kernel
theorem dX11_kept_8 : decode cX11_kept 8 = .ok (.getfield 17, 3) := by decide +kernel
theorem dX11_kept_11 : decode cX11_kept 11 = .ok (.aload_n 0, 1) := by decide +kernel
theorem dX11_kept_12 : decode cX11_kept 12 = .ok (.invokevirtual 38, 3) := by decide +kernel
theorem dX11_kept_15 : decode cX11_kept 15 = .ok (.invokestatic 34, 3) := by decide +kernel
theorem dX11_kept_18 : decode cX11_kept 18 = .ok (.iaload, 1) := by decide +kernel
theorem dX11_kept_19 : decode cX11_kept 19 = .ok (.goto 7, 3) := by decide +kernel
theorem dX11_kept_22 : decode cX11_kept 22 = .ok (.aload_n 0, 1) := by decide +kernel
theorem dX11_kept_23 : decode cX11_kept 23 = .ok (.getfield 20, 3) := by decide +kernel
theorem dX11_kept_26 : decode cX11_kept 26 = .ok (.ireturn, 1) := by decide +kernel
theorem dX11_is_0 : decode cX11_is 0 = .ok (.aload_n 0, 1) := by decide +kernel
theorem dX11_is_1 : decode cX11_is 1 = .ok (.getfield 20, 3) := by decide +kernel
theorem dX11_is_4 : decode cX11_is 4 = .ok (.iload_n 1, 1) := by decide +kernel
theorem dX11_is_5 : decode cX11_is 5 = .ok (.ishr, 1) := by decide +kernel
theorem dX11_is_6 : decode cX11_is 6 = .ok (.iconst 1, 1) := by decide +kernel
theorem dX11_is_7 : decode cX11_is 7 = .ok (.iand, 1) := by decide +kernel
theorem dX11_is_8 : decode cX11_is 8 = .ok (.iconst 1, 1) := by decide +kernel
theorem dX11_is_9 : decode cX11_is 9 = .ok (.if_icmp .ne 7, 3) := by decide +kernel
theorem dX11_is_12 : decode cX11_is 12 = .ok (.iconst 1, 1) := by decide +kernel
theorem dX11_is_13 : decode cX11_is 13 = .ok (.goto 4, 3) := by decide +kernel
theorem dX11_is_16 : decode cX11_is 16 = .ok (.iconst 0, 1) := by decide +kernel
theorem dX11_is_17 : decode cX11_is 17 = .ok (.ireturn, 1) := by decide +kernel
theorem dX11_setFlags_0 : decode cX11_setFlags 0 = .ok (.aload_n 0, 1) := by decide +kernel
theorem dX11_setFlags_1 : decode cX11_setFlags 1 = .ok (.aload_n 0, 1) := by decide +kernel
theorem dX11_setFlags_2 : decode cX11_setFlags 2 = .ok (.getfield 20, 3) := by decide +kernel
theorem dX11_setFlags_5 : decode cX11_setFlags 5 = .ok (.ldc 70, 2) := by decide +kernel
theorem dX11_setFlags_7 : decode cX11_setFlags 7 = .ok (.iand, 1) := by decide +kernel
theorem dX11_setFlags_8 : decode cX11_setFlags 8 = .ok (.iload_n 1, 1) := by decide +kernel
theorem dX11_setFlags_9 : decode cX11_setFlags 9 = .ok (.ifCond .ge 8, 3) := by decide +kernel
theorem dX11_setFlags_12 : decode cX11_setFlags 12 = .ok (.ldc 71, 2) := by decide +kernel
theorem dX11_setFlags_14 : decode cX11_setFlags 14 = .ok (.goto 4, 3) := by decide +kernel
theorem dX11_setFlags_17 : decode cX11_setFlags 17 = .ok (.iconst 0, 1) := by decide +kernel
theorem dX11_setFlags_18 : decode cX11_setFlags 18 = .ok (.ior, 1) := by decide +kernel
theorem dX11_setFlags_19 : decode cX11_setFlags 19 = .ok (.iload_n 1, 1) := by decide +kernel
theorem dX11_setFlags_20 : decode cX11_setFlags 20 = .ok (.ifCond .ne 8, 3) := by decide +kernel
theorem dX11_setFlags_23 : decode cX11_setFlags 23 = .ok (.ldc 72, 2) := by decide +kernel
theorem dX11_setFlags_25 : decode cX11_setFlags 25 = .ok (.goto 4, 3) := by decide +kernel
theorem dX11_setFlags_28 : decode cX11_setFlags 28 = .ok (.iconst 0, 1) := by decide +kernel
theorem dX11_setFlags_29 : decode cX11_setFlags 29 = .ok (.ior, 1) := by decide +kernel
theorem dX11_setFlags_30 : decode cX11_setFlags 30 = .ok (.putfield 20, 3) := by decide +kernel
theorem dX11_setFlags_33 : decode cX11_setFlags 33 = .ok (.return_, 1) := by decide +kernel
theorem dX11_setCarry_0 : decode cX11_setCarry 0 = .ok (.aload_n 0, 1) := by decide +kernel
theorem dX11_setCarry_1 : decode cX11_setCarry 1 = .ok (.aload_n 0, 1) := by decide +kernel
theorem dX11_setCarry_2 : decode cX11_setCarry 2 = .ok (.getfield 20, 3) := by decide +kernel
theorem dX11_setCarry_5 : decode cX11_setCarry 5 = .ok (.ldc 73, 2) := by decide +kernel
theorem dX11_setCarry_7 : decode cX11_setCarry 7 = .ok (.iand, 1) := by decide +kernel
theorem dX11_setCarry_8 : decode cX11_setCarry 8 = .ok (.iload_n 1, 1) := by decide +kernel
theorem dX11_setCarry_9 : decode cX11_setCarry 9 = .ok (.ifCond .eq 8, 3) := by decide +kernel
theorem dX11_setCarry_12 : decode cX11_setCarry 12 = .ok (.ldc 74, 2) := by decide +kernel
theorem dX11_setCarry_14 : decode cX11_setCarry 14 = .ok (.goto 4, 3) := by decide +kernel
theorem dX11_setCarry_17 : decode cX11_setCarry 17 = .ok (.iconst 0, 1) := by decide +kernel
theorem dX11_setCarry_18 : decode cX11_setCarry 18 = .ok (.ior, 1) := by decide +kernel
theorem dX11_setCarry_19 : decode cX11_setCarry 19 = .ok (.putfield 20, 3) := by decide +kernel
theorem dX11_setCarry_22 : decode cX11_setCarry 22 = .ok (.return_, 1) := by decide +kernel
theorem dX11_setOver_0 : decode cX11_setOver 0 = .ok (.aload_n 0, 1) := by decide +kernel
theorem dX11_setOver_1 : decode cX11_setOver 1 = .ok (.aload_n 0, 1) := by decide +kernel
theorem dX11_setOver_2 : decode cX11_setOver 2 = .ok (.getfield 20, 3) := by decide +kernel
theorem dX11_setOver_5 : decode cX11_setOver 5 = .ok (.ldc 75, 2) := by decide +kernel
theorem dX11_setOver_7 : decode cX11_setOver 7 = .ok (.iand, 1) := by decide +kernel
theorem dX11_setOver_8 : decode cX11_setOver 8 = .ok (.iload_n 1, 1) := by decide +kernel
theorem dX11_setOver_9 : decode cX11_setOver 9 = .ok (.ifCond .eq 8, 3) := by decide +kernel
theorem dX11_setOver_12 : decode cX11_setOver 12 = .ok (.ldc 76, 2) := by decide +kernel
theorem dX11_setOver_14 : decode cX11_setOver 14 = .ok (.goto 4, 3) := by decide +kernel
theorem dX11_setOver_17 : decode cX11_setOver 17 = .ok (.iconst 0, 1) := by decide +kernel
theorem dX11_setOver_18 : decode cX11_setOver 18 = .ok (.ior, 1) := by decide +kernel
theorem dX11_setOver_19 : decode cX11_setOver 19 = .ok (.putfield 20, 3) := by decide +kernel
theorem dX11_setOver_22 : decode cX11_setOver 22 = .ok (.return_, 1) := by decide +kernel
theorem dX11_poke_0 : decode cX11_poke 0 = .ok (.aload_n 0, 1) := by decide +kernel
theorem dX11_poke_1 : decode cX11_poke 1 = .ok (.iconst 0, 1) := by decide +kernel
theorem dX11_poke_2 : decode cX11_poke 2 = .ok (.putfield 31, 3) := by decide +kernel
theorem dX11_poke_5 : decode cX11_poke 5 = .ok (.iload_n 1, 1) := by decide +kernel
theorem dX11_poke_6 : decode cX11_poke 6 = .ok (.iconst 4, 1) := by decide +kernel
theorem dX11_poke_7 : decode cX11_poke 7 = .ok (.irem, 1) := by decide +kernel
theorem dX11_poke_8 : decode cX11_poke 8 = .ok (.ifCond .eq 9, 3) := by decide +kernel
theorem dX11_poke_11 : decode cX11_poke 11 = .ok (.aload_n 0, 1) := by decide +kernel
theorem dX11_poke_12 : decode cX11_poke 12 = .ok (.iconst 1, 1) := by decide +kernel
theorem dX11_poke_13 : decode cX11_poke 13 = .ok (.invokevirtual 77, 3) := by decide +kernel
theorem dX11_poke_16 : decode cX11_poke 16 = .ok (.ireturn, 1) := by decide +kernel
theorem dX11_poke_17 : decode cX11_poke 17 = .ok (.iload_n 1, 1) := by decide +kernel
theorem dX11_poke_18 : decode cX11_poke 18 = .ok (.iconst 0, 1) := by decide +kernel
theorem dX11_poke_19 : decode cX11_poke 19 = .ok (.ldc 80, 2) := by decide +kernel
theorem dX11_poke_21 : decode cX11_poke 21 = .ok (.invokestatic 81, 3) := by decide +kernel
theorem dX11_poke_24 : decode cX11_poke 24 = .ok (.ifCond .ne 9, 3) := by decide +kernel
theorem dX11_poke_27 : decode cX11_poke 27 = .ok (.aload_n 0, 1) := by decide +kernel
theorem dX11_poke_28 : decode cX11_poke 28 = .ok (.iconst 2, 1) := by decide +kernel
theorem dX11_poke_29 : decode cX11_poke 29 = .ok (.invokevirtual 77, 3) := by decide +kernel
theorem dX11_poke_32 : decode cX11_poke 32 = .ok (.ireturn, 1) := by decide +kernel
theorem dX11_poke_33 : decode cX11_poke 33 = .ok (.aload_n 0, 1) := by decide +kernel
theorem dX11_poke_34 : decode cX11_poke 34 = .ok (.getfield 8, 3) := by decide +kernel
theorem dX11_poke_37 : decode cX11_poke 37 = .ok (.iload_n 1, 1) := by decide +kernel
theorem dX11_poke_38 : decode cX11_poke 38 = .ok (.iconst 4, 1) := by decide +kernel
theorem dX11_poke_39 : decode cX11_poke 39 = .ok (.idiv, 1) := by decide +kernel
theorem dX11_poke_40 : decode cX11_poke 40 = .ok (.iaload, 1) := by decide +kernel
theorem dX11_poke_41 : decode cX11_poke 41 = .ok (.istore_n 3, 1) := by decide +kernel
theorem dX11_poke_42 : decode cX11_poke 42 = .ok (.aload_n 0, 1) := by decide +kernel
theorem dX11_poke_43 : decode cX11_poke 43 = .ok (.getfield 8, 3) := by decide +kernel
theorem dX11_poke_46 : decode cX11_poke 46 = .ok (.iload_n 1, 1) := by decide +kernel
theorem dX11_poke_47 : decode cX11_poke 47 = .ok (.iconst 4, 1) := by decide +kernel
theorem dX11_poke_48 : decode cX11_poke 48 = .ok (.idiv, 1) := by decide +kernel
theorem dX11_poke_49 : decode cX11_poke 49 = .ok (.iload_n 2, 1) := by decide +kernel
theorem dX11_poke_50 : decode cX11_poke 50 = .ok (.iastore, 1) := by decide +kernel
theorem dX11_poke_51 : decode cX11_poke 51 = .ok (.iload_n 3, 1) := by decide +kernel
theorem dX11_poke_52 : decode cX11_poke 52 = .ok (.ireturn, 1) := by decide +kernel
theorem dX11_peek_0 : decode cX11_peek 0 = .ok (.aload_n 0, 1) := by decide +kernel
theorem dX11_peek_1 : decode cX11_peek 1 = .ok (.iconst 0, 1) := by decide +kernel
theorem dX11_peek_2 : decode cX11_peek 2 = .ok (.putfield 31, 3) := by decide +kernel
theorem dX11_peek_5 : decode cX11_peek 5 = .ok (.iload_n 1, 1) := by decide +kernel
theorem dX11_peek_6 : decode cX11_peek 6 = .ok (.iconst 4, 1) := by decide +kernel
theorem dX11_peek_7 : decode cX11_peek 7 = .ok (.irem, 1) := by decide +kernel
theorem dX11_peek_8 : decode cX11_peek 8 = .ok (.ifCond .eq 9, 3) := by decide +kernel
theorem dX11_peek_11 : decode cX11_peek 11 = .ok (.aload_n 0, 1) := by decide +kernel
theorem dX11_peek_12 : decode cX11_peek 12 = .ok (.iconst 1, 1) := by decide +kernel
theorem dX11_peek_13 : decode cX11_peek 13 = .ok (.invokevirtual 77, 3) := by decide +kernel
theorem dX11_peek_16 : decode cX11_peek 16 = .ok (.ireturn, 1) := by decide +kernel
theorem dX11_peek_17 : decode cX11_peek 17 = .ok (.iload_n 1, 1) := by decide +kernel
theorem dX11_peek_18 : decode cX11_peek 18 = .ok (.iconst 0, 1) := by decide +kernel
theorem dX11_peek_19 : decode cX11_peek 19 = .ok (.ldc 80, 2) := by decide +kernel
theorem dX11_peek_21 : decode cX11_peek 21 = .ok (.invokestatic 81, 3) := by decide +kernel
theorem dX11_peek_24 : decode cX11_peek 24 = .ok (.ifCond .eq 14, 3) := by decide +kernel
theorem dX11_peek_27 : decode cX11_peek 27 = .ok (.aload_n 0, 1) := by decide +kernel
theorem dX11_peek_28 : decode cX11_peek 28 = .ok (.getfield 8, 3) := by decide +kernel
theorem dX11_peek_31 : decode cX11_peek 31 = .ok (.iload_n 1, 1) := by decide +kernel
theorem dX11_peek_32 : decode cX11_peek 32 = .ok (.iconst 4, 1) := by decide +kernel
theorem dX11_peek_33 : decode cX11_peek 33 = .ok (.idiv, 1) := by decide +kernel
theorem dX11_peek_34 : decode cX11_peek 34 = .ok (.iaload, 1) := by decide +kernel
theorem dX11_peek_35 : decode cX11_peek 35 = .ok (.goto 8, 3) := by decide +kernel
theorem dX11_peek_38 : decode cX11_peek 38 = .ok (.aload_n 0, 1) := by decide +kernel
theorem dX11_peek_39 : decode cX11_peek 39 = .ok (.iconst 2, 1) := by decide +kernel
theorem dX11_peek_40 : decode cX11_peek 40 = .ok (.invokevirtual 77, 3) := by decide +kernel
theorem dX11_peek_43 : decode cX11_peek 43 = .ok (.ireturn, 1) := by decide +kernel
theorem dX11_set_0 : decode cX11_set 0 = .ok (.aload_n 0, 1) := by decide +kernel
theorem dX11_set_1 : decode cX11_set 1 = .ok (.iconst 0, 1) := by decide +kernel
theorem dX11_set_2 : decode cX11_set 2 = .ok (.putfield 31, 3) := by decide +kernel
theorem dX11_set_5 : decode cX11_set 5 = .ok (.iload_n 1, 1) := by decide +kernel
theorem dX11_set_6 : decode cX11_set 6 = .ok (.invokestatic 34, 3) := by decide +kernel
theorem dX11_set_9 : decode cX11_set 9 = .ok (.ifCond .ge 11, 3) := by decide +kernel
theorem dX11_set_12 : decode cX11_set 12 = .ok (.aload_n 0, 1) := by decide +kernel
theorem dX11_set_13 : decode cX11_set 13 = .ok (.iconst 1, 1) := by decide +kernel
theorem dX11_set_14 : decode cX11_set 14 = .ok (.putfield 31, 3) := by decide +kernel
theorem dX11_set_17 : decode cX11_set 17 = .ok (.goto 46, 3) := by decide +kernel
theorem dX11_set_20 : decode cX11_set 20 = .ok (.iload_n 2, 1) := by decide +kernel
theorem dX11_set_21 : decode cX11_set 21 = .ok (.iconst 0, 1) := by decide +kernel
theorem dX11_set_22 : decode cX11_set 22 = .ok (.bipush 15, 2) := by decide +kernel
theorem dX11_set_24 : decode cX11_set 24 = .ok (.invokestatic 81, 3) := by decide +kernel
theorem dX11_set_27 : decode cX11_set 27 = .ok (.ifCond .ne 11, 3) := by decide +kernel
theorem dX11_set_30 : decode cX11_set 30 = .ok (.aload_n 0, 1) := by decide +kernel
theorem dX11_set_31 : decode cX11_set 31 = .ok (.iconst 2, 1) := by decide +kernel
theorem dX11_set_32 : decode cX11_set 32 = .ok (.putfield 31, 3) := by decide +kernel
theorem dX11_set_35 : decode cX11_set 35 = .ok (.goto 28, 3) := by decide +kernel
theorem dX11_set_38 : decode cX11_set 38 = .ok (.aload_n 0, 1) := by decide +kernel
theorem dX11_set_39 : decode cX11_set 39 = .ok (.getfield 14, 3) := by decide +kernel
theorem dX11_set_42 : decode cX11_set 42 = .ok (.iload_n 1, 1) := by decide +kernel
theorem dX11_set_43 : decode cX11_set 43 = .ok (.iload_n 2, 1) := by decide +kernel
theorem dX11_set_44 : decode cX11_set 44 = .ok (.invokestatic 42, 3) := by decide +kernel
theorem dX11_set_47 : decode cX11_set 47 = .ok (.iload_n 2, 1) := by decide +kernel
theorem dX11_set_48 : decode cX11_set 48 = .ok (.bipush 15, 2) := by decide +kernel
theorem dX11_set_50 : decode cX11_set 50 = .ok (.if_icmp .ne 11, 3) := by decide +kernel
theorem dX11_set_53 : decode cX11_set 53 = .ok (.aload_n 0, 1) := by decide +kernel
theorem dX11_set_54 : decode cX11_set 54 = .ok (.iload_n 3, 1) := by decide +kernel
theorem dX11_set_55 : decode cX11_set 55 = .ok (.invokevirtual 59, 3) := by decide +kernel
theorem dX11_set_58 : decode cX11_set 58 = .ok (.goto 4, 3) := by decide +kernel
theorem dX11_set_61 : decode cX11_set 61 = .ok (.iload_n 3, 1) := by decide +kernel
theorem dX11_set_62 : decode cX11_set 62 = .ok (.iastore, 1) := by decide +kernel
theorem dX11_set_63 : decode cX11_set 63 = .ok (.return_, 1) := by decide +kernel
theorem dX11_get_0 : decode cX11_get 0 = .ok (.aload_n 0, 1) := by decide +kernel
theorem dX11_get_1 : decode cX11_get 1 = .ok (.iconst 0, 1) := by decide +kernel
theorem dX11_get_2 : decode cX11_get 2 = .ok (.putfield 31, 3) := by decide +kernel
theorem dX11_get_5 : decode cX11_get 5 = .ok (.iload_n 1, 1) := by decide +kernel
theorem dX11_get_6 : decode cX11_get 6 = .ok (.invokestatic 34, 3) := by decide +kernel
theorem dX11_get_9 : decode cX11_get 9 = .ok (.ifCond .ge 9, 3) := by decide +kernel
theorem dX11_get_12 : decode cX11_get 12 = .ok (.aload_n 0, 1) := by decide +kernel
theorem dX11_get_13 : decode cX11_get 13 = .ok (.iconst 1, 1) := by decide +kernel
theorem dX11_get_14 : decode cX11_get 14 = .ok (.invokevirtual 77, 3) := by decide +kernel
theorem dX11_get_17 : decode cX11_get 17 = .ok (.ireturn, 1) := by decide +kernel
theorem dX11_get_18 : decode cX11_get 18 = .ok (.iload_n 2, 1) := by decide +kernel
theorem dX11_get_19 : decode cX11_get 19 = .ok (.iconst 0, 1) := by decide +kernel
theorem dX11_get_20 : decode cX11_get 20 = .ok (.bipush 15, 2) := by decide +kernel
theorem dX11_get_22 : decode cX11_get 22 = .ok (.invokestatic 81, 3) := by decide +kernel
theorem dX11_get_25 : decode cX11_get 25 = .ok (.ifCond .eq 16, 3) := by decide +kernel
theorem dX11_get_28 : decode cX11_get 28 = .ok (.aload_n 0, 1) := by decide +kernel
theorem dX11_get_29 : decode cX11_get 29 = .ok (.getfield 14, 3) := by decide +kernel
theorem dX11_get_32 : decode cX11_get 32 = .ok (.iload_n 1, 1) := by decide +kernel
theorem dX11_get_33 : decode cX11_get 33 = .ok (.iload_n 2, 1) := by decide +kernel
theorem dX11_get_34 : decode cX11_get 34 = .ok (.invokestatic 42, 3) := by decide +kernel
theorem dX11_get_37 : decode cX11_get 37 = .ok (.iaload, 1) := by decide +kernel
theorem dX11_get_38 : decode cX11_get 38 = .ok (.goto 8, 3) := by decide +kernel
theorem dX11_get_41 : decode cX11_get 41 = .ok (.aload_n 0, 1) := by decide +kernel
theorem dX11_get_42 : decode cX11_get 42 = .ok (.iconst 2, 1) := by decide +kernel
theorem dX11_get_43 : decode cX11_get 43 = .ok (.invokevirtual 77, 3) := by decide +kernel
theorem dX11_get_46 : decode cX11_get 46 = .ok (.ireturn, 1) := by decide +kernel
theorem dX11_status_0 : decode cX11_status 0 = .ok (.aload_n 0, 1) := by decide +kernel
theorem dX11_status_1 : decode cX11_status 1 = .ok (.iconst 0, 1) := by decide +kernel
theorem dX11_status_2 : decode cX11_status 2 = .ok (.putfield 31, 3) := by decide +kernel
theorem dX11_status_5 : decode cX11_status 5 = .ok (.aload_n 0, 1) := by decide +kernel
theorem dX11_status_6 : decode cX11_status 6 = .ok (.getfield 20, 3) := by decide +kernel
theorem dX11_status_9 : decode cX11_status 9 = .ok (.istore_n 2, 1) := by decide +kernel
theorem dX11_status_10 : decode cX11_status 10 = .ok (.aload_n 0, 1) := by decide +kernel
theorem dX11_status_11 : decode cX11_status 11 = .ok (.iload_n 1, 1) := by decide +kernel
theorem dX11_status_12 : decode cX11_status 12 = .ok (.invokevirtual 85, 3) := by decide +kernel
theorem dX11_status_15 : decode cX11_status 15 = .ok (.aload_n 0, 1) := by decide +kernel
theorem dX11_status_16 : decode cX11_status 16 = .ok (.getfield 14, 3) := by decide +kernel
theorem dX11_status_19 : decode cX11_status 19 = .ok (.bipush 15, 2) := by decide +kernel
theorem dX11_status_21 : decode cX11_status 21 = .ok (.aload_n 0, 1) := by decide +kernel
theorem dX11_status_22 : decode cX11_status 22 = .ok (.aload_n 0, 1) := by decide +kernel
theorem dX11_status_23 : decode cX11_status 23 = .ok (.getfield 14, 3) := by decide +kernel
theorem dX11_status_26 : decode cX11_status 26 = .ok (.bipush 15, 2) := by decide +kernel
theorem dX11_status_28 : decode cX11_status 28 = .ok (.iaload, 1) := by decide +kernel
theorem dX11_status_29 : decode cX11_status 29 = .ok (.invokevirtual 59, 3) := by decide +kernel
theorem dX11_status_32 : decode cX11_status 32 = .ok (.iastore, 1) := by decide +kernel
theorem dX11_status_33 : decode cX11_status 33 = .ok (.iload_n 2, 1) := by decide +kernel
theorem dX11_status_34 : decode cX11_status 34 = .ok (.ireturn, 1) := by decide +kernel
theorem dX11_saved_0 : decode cX11_saved 0 = .ok (.aload_n 0, 1) := by decide +kernel
theorem dX11_saved_1 : decode cX11_saved 1 = .ok (.iconst 0, 1) := by decide +kernel
theorem dX11_saved_2 : decode cX11_saved 2 = .ok (.putfield 31, 3) := by decide +kernel
theorem dX11_saved_5 : decode cX11_saved 5 = .ok (.iload_n 1, 1) := by decide +kernel
theorem dX11_saved_6 : decode cX11_saved 6 = .ok (.invokestatic 34, 3) := by decide +kernel
theorem dX11_saved_9 : decode cX11_saved 9 = .ok (.istore_n 3, 1) := by decide +kernel
theorem dX11_saved_10 : decode cX11_saved 10 = .ok (.iload_n 3, 1) := by decide +kernel
theorem dX11_saved_11 : decode cX11_saved 11 = .ok (.iconst 0, 1) := by decide +kernel
theorem dX11_saved_12 : decode cX11_saved 12 = .ok (.iconst 4, 1) := by decide +kernel
theorem dX11_saved_13 : decode cX11_saved 13 = .ok (.invokestatic 81, 3) := by decide +kernel
theorem dX11_saved_16 : decode cX11_saved 16 = .ok (.ifCond .ne 9, 3) := by decide +kernel
theorem dX11_saved_19 : decode cX11_saved 19 = .ok (.aload_n 0, 1) := by decide +kernel
theorem dX11_saved_20 : decode cX11_saved 20 = .ok (.iconst 1, 1) := by decide +kernel
theorem dX11_saved_21 : decode cX11_saved 21 = .ok (.invokevirtual 77, 3) := by decide +kernel
theorem dX11_saved_24 : decode cX11_saved 24 = .ok (.ireturn, 1) := by decide +kernel
theorem dX11_saved_25 : decode cX11_saved 25 = .ok (.aload_n 0, 1) := by decide +kernel
theorem dX11_saved_26 : decode cX11_saved 26 = .ok (.getfield 17, 3) := by decide +kernel
theorem dX11_saved_29 : decode cX11_saved 29 = .ok (.iload_n 3, 1) := by decide +kernel
theorem dX11_saved_30 : decode cX11_saved 30 = .ok (.iaload, 1) := by decide +kernel
theorem dX11_saved_31 : decode cX11_saved 31 = .ok (.istore 4, 2) := by decide +kernel
theorem dX11_saved_33 : decode cX11_saved 33 = .ok (.aload_n 0, 1) := by decide +kernel
theorem dX11_saved_34 : decode cX11_saved 34 = .ok (.getfield 17, 3) := by decide +kernel
theorem dX11_saved_37 : decode cX11_saved 37 = .ok (.iload_n 3, 1) := by decide +kernel
theorem dX11_saved_38 : decode cX11_saved 38 = .ok (.iload_n 2, 1) := by decide +kernel
theorem dX11_saved_39 : decode cX11_saved 39 = .ok (.ldc 66, 2) := by decide +kernel
theorem dX11_saved_41 : decode cX11_saved 41 = .ok (.iand, 1) := by decide +kernel
theorem dX11_saved_42 : decode cX11_saved 42 = .ok (.iastore, 1) := by decide +kernel
theorem dX11_saved_43 : decode cX11_saved 43 = .ok (.iload 4, 2) := by decide +kernel
theorem dX11_saved_45 : decode cX11_saved 45 = .ok (.ireturn, 1) := by decide +kernel
theorem dX11_line_0 : decode cX11_line 0 = .ok (.aload_n 0, 1) := by decide +kernel
theorem dX11_line_1 : decode cX11_line 1 = .ok (.iconst 0, 1) := by decide +kernel
theorem dX11_line_2 : decode cX11_line 2 = .ok (.putfield 31, 3) := by decide +kernel
theorem dX11_line_5 : decode cX11_line 5 = .ok (.iload_n 1, 1) := by decide +kernel
theorem dX11_line_6 : decode cX11_line 6 = .ok (.iconst 0, 1) := by decide +kernel
theorem dX11_line_7 : decode cX11_line 7 = .ok (.iconst 1, 1) := by decide +kernel
theorem dX11_line_8 : decode cX11_line 8 = .ok (.invokestatic 81, 3) := by decide +kernel
theorem dX11_line_11 : decode cX11_line 11 = .ok (.ifCond .ne 17, 3) := by decide +kernel
theorem dX11_line_14 : decode cX11_line 14 = .ok (.aload_n 0, 1) := by decide +kernel
theorem dX11_line_15 : decode cX11_line 15 = .ok (.iconst 1, 1) := by decide +kernel
theorem dX11_line_16 : decode cX11_line 16 = .ok (.invokevirtual 77, 3) := by decide +kernel
theorem dX11_line_19 : decode cX11_line 19 = .ok (.ifCond .le 7, 3) := by decide +kernel
theorem dX11_line_22 : decode cX11_line 22 = .ok (.iconst 1, 1) := by decide +kernel
theorem dX11_line_23 : decode cX11_line 23 = .ok (.goto 4, 3) := by decide +kernel
theorem dX11_line_26 : decode cX11_line 26 = .ok (.iconst 0, 1) := by decide +kernel
theorem dX11_line_27 : decode cX11_line 27 = .ok (.ireturn, 1) := by decide +kernel
theorem dX11_line_28 : decode cX11_line 28 = .ok (.aload_n 0, 1) := by decide +kernel
theorem dX11_line_29 : decode cX11_line 29 = .ok (.getfield 24, 3) := by decide +kernel
theorem dX11_line_32 : decode cX11_line 32 = .ok (.iload_n 1, 1) := by decide +kernel
theorem dX11_line_33 : decode cX11_line 33 = .ok (.baload, 1) := by decide +kernel
theorem dX11_line_34 : decode cX11_line 34 = .ok (.istore_n 3, 1) := by decide +kernel
theorem dX11_line_35 : decode cX11_line 35 = .ok (.aload_n 0, 1) := by decide +kernel
theorem dX11_line_36 : decode cX11_line 36 = .ok (.getfield 24, 3) := by decide +kernel
theorem dX11_line_39 : decode cX11_line 39 = .ok (.iload_n 1, 1) := by decide +kernel
theorem dX11_line_40 : decode cX11_line 40 = .ok (.iload_n 2, 1) := by decide +kernel
theorem dX11_line_41 : decode cX11_line 41 = .ok (.bastore, 1) := by decide +kernel
theorem dX11_line_42 : decode cX11_line 42 = .ok (.iload_n 3, 1) := by decide +kernel
theorem dX11_line_43 : decode cX11_line 43 = .ok (.ireturn, 1) := by decide +kernel
theorem dX11_enter_0 : decode cX11_enter 0 = .ok (.iload_n 1, 1) := by decide +kernel
theorem dX11_enter_1 : decode cX11_enter 1 = .ok (.ifCond .ne 8, 3) := by decide +kernel
theorem dX11_enter_4 : decode cX11_enter 4 = .ok (.bipush 27, 2) := by decide +kernel
theorem dX11_enter_6 : decode cX11_enter 6 = .ok (.goto 35, 3) := by decide +kernel
theorem dX11_enter_9 : decode cX11_enter 9 = .ok (.iload_n 1, 1) := by decide +kernel
theorem dX11_enter_10 : decode cX11_enter 10 = .ok (.iconst 1, 1) := by decide +kernel
theorem dX11_enter_11 : decode cX11_enter 11 = .ok (.if_icmp .ne 8, 3) := by decide +kernel
theorem dX11_enter_14 : decode cX11_enter 14 = .ok (.bipush 19, 2) := by decide +kernel
theorem dX11_enter_16 : decode cX11_enter 16 = .ok (.goto 25, 3) := by decide +kernel
theorem dX11_enter_19 : decode cX11_enter 19 = .ok (.iload_n 1, 1) := by decide +kernel
theorem dX11_enter_20 : decode cX11_enter 20 = .ok (.iconst 4, 1) := by decide +kernel
theorem dX11_enter_21 : decode cX11_enter 21 = .ok (.if_icmp .ge 8, 3) := by decide +kernel
theorem dX11_enter_24 : decode cX11_enter 24 = .ok (.bipush 23, 2) := by decide +kernel
theorem dX11_enter_26 : decode cX11_enter 26 = .ok (.goto 15, 3) := by decide +kernel
theorem dX11_enter_29 : decode cX11_enter 29 = .ok (.iload_n 1, 1) := by decide +kernel
theorem dX11_enter_30 : decode cX11_enter 30 = .ok (.iconst 4, 1) := by decide +kernel
theorem dX11_enter_31 : decode cX11_enter 31 = .ok (.if_icmp .ne 8, 3) := by decide +kernel
theorem dX11_enter_34 : decode cX11_enter 34 = .ok (.bipush 18, 2) := by decide +kernel
theorem dX11_enter_36 : decode cX11_enter 36 = .ok (.goto 5, 3) := by decide +kernel
theorem dX11_enter_39 : decode cX11_enter 39 = .ok (.bipush 17, 2) := by decide +kernel
theorem dX11_enter_41 : decode cX11_enter 41 = .ok (.istore_n 3, 1) := by decide +kernel
theorem dX11_enter_42 : decode cX11_enter 42 = .ok (.aload_n 0, 1) := by decide +kernel
theorem dX11_enter_43 : decode cX11_enter 43 = .ok (.getfield 20, 3) := by decide +kernel
theorem dX11_enter_46 : decode cX11_enter 46 = .ok (.istore 4, 2) := by decide +kernel
theorem dX11_enter_48 : decode cX11_enter 48 = .ok (.aload_n 0, 1) := by decide +kernel
theorem dX11_enter_49 : decode cX11_enter 49 = .ok (.iload 4, 2) := by decide +kernel
theorem dX11_enter_51 : decode cX11_enter 51 = .ok (.bipush (-64), 2) := by decide +kernel
theorem dX11_enter_53 : decode cX11_enter 53 = .ok (.iand, 1) := by decide +kernel
theorem dX11_enter_54 : decode cX11_enter 54 = .ok (.sipush 128, 3) := by decide +kernel
theorem dX11_enter_57 : decode cX11_enter 57 = .ok (.ior, 1) := by decide +kernel
theorem dX11_enter_58 : decode cX11_enter 58 = .ok (.iload_n 3, 1) := by decide +kernel
theorem dX11_enter_59 : decode cX11_enter 59 = .ok (.ior, 1) := by decide +kernel
theorem dX11_enter_60 : decode cX11_enter 60 = .ok (.putfield 20, 3) := by decide +kernel
theorem dX11_enter_63 : decode cX11_enter 63 = .ok (.iload_n 1, 1) := by decide +kernel
theorem dX11_enter_64 : decode cX11_enter 64 = .ok (.iconst 5, 1) := by decide +kernel
theorem dX11_enter_65 : decode cX11_enter 65 = .ok (.if_icmp .ne 14, 3) := by decide +kernel
theorem dX11_enter_68 : decode cX11_enter 68 = .ok (.aload_n 0, 1) := by decide +kernel
theorem dX11_enter_69 : decode cX11_enter 69 = .ok (.aload_n 0, 1) := by decide +kernel
theorem dX11_enter_70 : decode cX11_enter 70 = .ok (.getfield 20, 3) := by decide +kernel
theorem dX11_enter_73 : decode cX11_enter 73 = .ok (.bipush 64, 2) := by decide +kernel
theorem dX11_enter_75 : decode cX11_enter 75 = .ok (.ior, 1) := by decide +kernel
theorem dX11_enter_76 : decode cX11_enter 76 = .ok (.putfield 20, 3) := by decide +kernel
theorem dX11_enter_79 : decode cX11_enter 79 = .ok (.aload_n 0, 1) := by decide +kernel
theorem dX11_enter_80 : decode cX11_enter 80 = .ok (.getfield 17, 3) := by decide +kernel
theorem dX11_enter_83 : decode cX11_enter 83 = .ok (.iload_n 3, 1) := by decide +kernel
theorem dX11_enter_84 : decode cX11_enter 84 = .ok (.invokestatic 34, 3) := by decide +kernel
theorem dX11_enter_87 : decode cX11_enter 87 = .ok (.iload 4, 2) := by decide +kernel
theorem dX11_enter_89 : decode cX11_enter 89 = .ok (.iastore, 1) := by decide +kernel
theorem dX11_enter_90 : decode cX11_enter 90 = .ok (.aload_n 0, 1) := by decide +kernel
theorem dX11_enter_91 : decode cX11_enter 91 = .ok (.getfield 14, 3) := by decide +kernel
theorem dX11_enter_94 : decode cX11_enter 94 = .ok (.iload_n 3, 1) := by decide +kernel
theorem dX11_enter_95 : decode cX11_enter 95 = .ok (.bipush 14, 2) := by decide +kernel
theorem dX11_enter_97 : decode cX11_enter 97 = .ok (.invokestatic 42, 3) := by decide +kernel
theorem dX11_enter_100 : decode cX11_enter 100 = .ok (.iload_n 2, 1) := by decide +kernel
theorem dX11_enter_101 : decode cX11_enter 101 = .ok (.iastore, 1) := by decide +kernel
theorem dX11_enter_102 : decode cX11_enter 102 = .ok (.aload_n 0, 1) := by decide +kernel
theorem dX11_enter_103 : decode cX11_enter 103 = .ok (.getfield 14, 3) := by decide +kernel
theorem dX11_enter_106 : decode cX11_enter 106 = .ok (.bipush 15, 2) := by decide +kernel
theorem dX11_enter_108 : decode cX11_enter 108 = .ok (.iload_n 1, 1) := by decide +kernel
theorem dX11_enter_109 : decode cX11_enter 109 = .ok (.ifCond .ne 7, 3) := by decide +kernel
theorem dX11_enter_112 : decode cX11_enter 112 = .ok (.iconst 4, 1) := by decide +kernel
theorem dX11_enter_113 : decode cX11_enter 113 = .ok (.goto 45, 3) := by decide +kernel
theorem dX11_enter_116 : decode cX11_enter 116 = .ok (.iload_n 1, 1) := by decide +kernel
theorem dX11_enter_117 : decode cX11_enter 117 = .ok (.iconst 1, 1) := by decide +kernel
theorem dX11_enter_118 : decode cX11_enter 118 = .ok (.if_icmp .ne 8, 3) := by decide +kernel
theorem dX11_enter_121 : decode cX11_enter 121 = .ok (.bipush 8, 2) := by decide +kernel
theorem dX11_enter_123 : decode cX11_enter 123 = .ok (.goto 35, 3) := by decide +kernel
theorem dX11_enter_126 : decode cX11_enter 126 = .ok (.iload_n 1, 1) := by decide +kernel
theorem dX11_enter_127 : decode cX11_enter 127 = .ok (.iconst 2, 1) := by decide +kernel
theorem dX11_enter_128 : decode cX11_enter 128 = .ok (.if_icmp .ne 8, 3) := by decide +kernel
theorem dX11_enter_131 : decode cX11_enter 131 = .ok (.bipush 12, 2) := by decide +kernel
theorem dX11_enter_133 : decode cX11_enter 133 = .ok (.goto 25, 3) := by decide +kernel
theorem dX11_enter_136 : decode cX11_enter 136 = .ok (.iload_n 1, 1) := by decide +kernel
theorem dX11_enter_137 : decode cX11_enter 137 = .ok (.iconst 3, 1) := by decide +kernel
theorem dX11_enter_138 : decode cX11_enter 138 = .ok (.if_icmp .ne 8, 3) := by decide +kernel
theorem dX11_enter_141 : decode cX11_enter 141 = .ok (.bipush 16, 2) := by decide +kernel
theorem dX11_enter_143 : decode cX11_enter 143 = .ok (.goto 15, 3) := by decide +kernel
theorem dX11_enter_146 : decode cX11_enter 146 = .ok (.iload_n 1, 1) := by decide +kernel
theorem dX11_enter_147 : decode cX11_enter 147 = .ok (.iconst 4, 1) := by decide +kernel
theorem dX11_enter_148 : decode cX11_enter 148 = .ok (.if_icmp .ne 8, 3) := by decide +kernel
theorem dX11_enter_151 : decode cX11_enter 151 = .ok (.bipush 24, 2) := by decide +kernel
theorem dX11_enter_153 : decode cX11_enter 153 = .ok (.goto 5, 3) := by decide +kernel
theorem dX11_enter_156 : decode cX11_enter 156 = .ok (.bipush 28, 2) := by decide +kernel
theorem dX11_enter_158 : decode cX11_enter 158 = .ok (.iastore, 1) := by decide +kernel
theorem dX11_enter_159 : decode cX11_enter 159 = .ok (.aload_n 0, 1) := by decide +kernel
theorem dX11_enter_160 : decode cX11_enter 160 = .ok (.getfield 28, 3) := by decide +kernel
theorem dX11_enter_163 : decode cX11_enter 163 = .ok (.iload_n 1, 1) := by decide +kernel
theorem dX11_enter_164 : decode cX11_enter 164 = .ok (.dup2, 1) := by decide +kernel
theorem dX11_enter_165 : decode cX11_enter 165 = .ok (.iaload, 1) := by decide +kernel
theorem dX11_enter_166 : decode cX11_enter 166 = .ok (.iconst 1, 1) := by decide +kernel
theorem dX11_enter_167 : decode cX11_enter 167 = .ok (.iadd, 1) := by decide +kernel
theorem dX11_enter_168 : decode cX11_enter 168 = .ok (.iastore, 1) := by decide +kernel
theorem dX11_enter_169 : decode cX11_enter 169 = .ok (.return_, 1) := by decide +kernel
theorem dX11_go_0 : decode cX11_go 0 = .ok (.aload_n 0, 1) := by decide +kernel
theorem dX11_go_1 : decode cX11_go 1 = .ok (.dup, 1) := by decide +kernel
theorem dX11_go_2 : decode cX11_go 2 = .ok (.getfield 89, 3) := by decide +kernel
theorem dX11_go_5 : decode cX11_go 5 = .ok (.iconst 1, 1) := by decide +kernel
theorem dX11_go_6 : decode cX11_go 6 = .ok (.iadd, 1) := by decide +kernel
theorem dX11_go_7 : decode cX11_go 7 = .ok (.putfield 89, 3) := by decide +kernel
theorem dX11_go_10 : decode cX11_go 10 = .ok (.aload_n 0, 1) := by decide +kernel
theorem dX11_go_11 : decode cX11_go 11 = .ok (.getfield 24, 3) := by decide +kernel
theorem dX11_go_14 : decode cX11_go 14 = .ok (.iconst 1, 1) := by decide +kernel
theorem dX11_go_15 : decode cX11_go 15 = .ok (.baload, 1) := by decide +kernel
theorem dX11_go_16 : decode cX11_go 16 = .ok (.ifCond .eq 12, 3) := by decide +kernel
theorem dX11_go_19 : decode cX11_go 19 = .ok (.aload_n 0, 1) := by decide +kernel
theorem dX11_go_20 : decode cX11_go 20 = .ok (.bipush 6, 2) := by decide +kernel
theorem dX11_go_22 : decode cX11_go 22 = .ok (.invokevirtual 92, 3) := by decide +kernel
theorem dX11_go_25 : decode cX11_go 25 = .ok (.ifCond .eq 21, 3) := by decide +kernel
theorem dX11_go_28 : decode cX11_go 28 = .ok (.aload_n 0, 1) := by decide +kernel
theorem dX11_go_29 : decode cX11_go 29 = .ok (.getfield 24, 3) := by decide +kernel
theorem dX11_go_32 : decode cX11_go 32 = .ok (.iconst 0, 1) := by decide +kernel
theorem dX11_go_33 : decode cX11_go 33 = .ok (.baload, 1) := by decide +kernel
theorem dX11_go_34 : decode cX11_go 34 = .ok (.ifCond .eq 50, 3) := by decide +kernel
theorem dX11_go_37 : decode cX11_go 37 = .ok (.aload_n 0, 1) := by decide +kernel
theorem dX11_go_38 : decode cX11_go 38 = .ok (.bipush 7, 2) := by decide +kernel
theorem dX11_go_40 : decode cX11_go 40 = .ok (.invokevirtual 92, 3) := by decide +kernel
theorem dX11_go_43 : decode cX11_go 43 = .ok (.ifCond .ne 41, 3) := by decide +kernel
theorem dX11_go_46 : decode cX11_go 46 = .ok (.aload_n 0, 1) := by decide +kernel
theorem dX11_go_47 : decode cX11_go 47 = .ok (.aload_n 0, 1) := by decide +kernel
theorem dX11_go_48 : decode cX11_go 48 = .ok (.getfield 24, 3) := by decide +kernel
theorem dX11_go_51 : decode cX11_go 51 = .ok (.iconst 1, 1) := by decide +kernel
theorem dX11_go_52 : decode cX11_go 52 = .ok (.baload, 1) := by decide +kernel
theorem dX11_go_53 : decode cX11_go 53 = .ok (.ifCond .eq 16, 3) := by decide +kernel
theorem dX11_go_56 : decode cX11_go 56 = .ok (.aload_n 0, 1) := by decide +kernel
theorem dX11_go_57 : decode cX11_go 57 = .ok (.bipush 6, 2) := by decide +kernel
theorem dX11_go_59 : decode cX11_go 59 = .ok (.invokevirtual 92, 3) := by decide +kernel
theorem dX11_go_62 : decode cX11_go 62 = .ok (.ifCond .ne 7, 3) := by decide +kernel
theorem dX11_go_65 : decode cX11_go 65 = .ok (.iconst 5, 1) := by decide +kernel
theorem dX11_go_66 : decode cX11_go 66 = .ok (.goto 4, 3) := by decide +kernel
theorem dX11_go_69 : decode cX11_go 69 = .ok (.iconst 4, 1) := by decide +kernel
theorem dX11_go_70 : decode cX11_go 70 = .ok (.aload_n 0, 1) := by decide +kernel
theorem dX11_go_71 : decode cX11_go 71 = .ok (.getfield 14, 3) := by decide +kernel
theorem dX11_go_74 : decode cX11_go 74 = .ok (.bipush 15, 2) := by decide +kernel
theorem dX11_go_76 : decode cX11_go 76 = .ok (.iaload, 1) := by decide +kernel
theorem dX11_go_77 : decode cX11_go 77 = .ok (.iconst 4, 1) := by decide +kernel
theorem dX11_go_78 : decode cX11_go 78 = .ok (.iadd, 1) := by decide +kernel
theorem dX11_go_79 : decode cX11_go 79 = .ok (.invokevirtual 96, 3) := by decide +kernel
theorem dX11_go_82 : decode cX11_go 82 = .ok (.iconst 1, 1) := by decide +kernel
theorem dX11_go_83 : decode cX11_go 83 = .ok (.ireturn, 1) := by decide +kernel
theorem dX11_go_84 : decode cX11_go 84 = .ok (.aload_n 0, 1) := by decide +kernel
theorem dX11_go_85 : decode cX11_go 85 = .ok (.aload_n 0, 1) := by decide +kernel
theorem dX11_go_86 : decode cX11_go 86 = .ok (.invokevirtual 52, 3) := by decide +kernel
theorem dX11_go_89 : decode cX11_go 89 = .ok (.ifCond .eq 7, 3) := by decide +kernel
theorem dX11_go_92 : decode cX11_go 92 = .ok (.iconst 2, 1) := by decide +kernel
theorem dX11_go_93 : decode cX11_go 93 = .ok (.goto 4, 3) := by decide +kernel
theorem dX11_go_96 : decode cX11_go 96 = .ok (.iconst 4, 1) := by decide +kernel
theorem dX11_go_97 : decode cX11_go 97 = .ok (.putfield 100, 3) := by decide +kernel
theorem dX11_go_100 : decode cX11_go 100 = .ok (.aload_n 0, 1) := by decide +kernel
theorem dX11_go_101 : decode cX11_go 101 = .ok (.aload_n 0, 1) := by decide +kernel
theorem dX11_go_102 : decode cX11_go 102 = .ok (.getfield 14, 3) := by decide +kernel
theorem dX11_go_105 : decode cX11_go 105 = .ok (.bipush 15, 2) := by decide +kernel
theorem dX11_go_107 : decode cX11_go 107 = .ok (.iaload, 1) := by decide +kernel
theorem dX11_go_108 : decode cX11_go 108 = .ok (.aload_n 0, 1) := by decide +kernel
theorem dX11_go_109 : decode cX11_go 109 = .ok (.getfield 100, 3) := by decide +kernel
theorem dX11_go_112 : decode cX11_go 112 = .ok (.ineg, 1) := by decide +kernel
theorem dX11_go_113 : decode cX11_go 113 = .ok (.iand, 1) := by decide +kernel
theorem dX11_go_114 : decode cX11_go 114 = .ok (.putfield 46, 3) := by decide +kernel
theorem dX11_go_117 : decode cX11_go 117 = .ok (.aload_n 0, 1) := by decide +kernel
theorem dX11_go_118 : decode cX11_go 118 = .ok (.iconst (-1), 1) := by decide +kernel
theorem dX11_go_119 : decode cX11_go 119 = .ok (.putfield 103, 3) := by decide +kernel
theorem dX11_go_122 : decode cX11_go 122 = .ok (.aload_n 0, 1) := by decide +kernel
theorem dX11_go_123 : decode cX11_go 123 = .ok (.iconst 0, 1) := by decide +kernel
theorem dX11_go_124 : decode cX11_go 124 = .ok (.putfield 62, 3) := by decide +kernel
theorem dX11_go_127 : decode cX11_go 127 = .ok (.aload_n 0, 1) := by decide +kernel
theorem dX11_go_128 : decode cX11_go 128 = .ok (.getfield 46, 3) := by decide +kernel
theorem dX11_go_131 : decode cX11_go 131 = .ok (.invokestatic 106, 3) := by decide +kernel
theorem dX11_go_134 : decode cX11_go 134 = .ok (.ifCond .ne 11, 3) := by decide +kernel
theorem dX11_go_137 : decode cX11_go 137 = .ok (.aload_n 0, 1) := by decide +kernel
theorem dX11_go_138 : decode cX11_go 138 = .ok (.iconst 2, 1) := by decide +kernel
theorem dX11_go_139 : decode cX11_go 139 = .ok (.putfield 103, 3) := by decide +kernel
theorem dX11_go_142 : decode cX11_go 142 = .ok (.goto 40, 3) := by decide +kernel
theorem dX11_go_145 : decode cX11_go 145 = .ok (.aload_n 0, 1) := by decide +kernel
theorem dX11_go_146 : decode cX11_go 146 = .ok (.invokevirtual 52, 3) := by decide +kernel
theorem dX11_go_149 : decode cX11_go 149 = .ok (.ifCond .eq 18, 3) := by decide +kernel
theorem dX11_go_152 : decode cX11_go 152 = .ok (.aload_n 0, 1) := by decide +kernel
theorem dX11_go_153 : decode cX11_go 153 = .ok (.aload_n 0, 1) := by decide +kernel
theorem dX11_go_154 : decode cX11_go 154 = .ok (.aload_n 0, 1) := by decide +kernel
theorem dX11_go_155 : decode cX11_go 155 = .ok (.getfield 46, 3) := by decide +kernel
theorem dX11_go_158 : decode cX11_go 158 = .ok (.invokevirtual 109, 3) := by decide +kernel
theorem dX11_go_161 : decode cX11_go 161 = .ok (.invokevirtual 112, 3) := by decide +kernel
theorem dX11_go_164 : decode cX11_go 164 = .ok (.goto 18, 3) := by decide +kernel
theorem dX11_go_167 : decode cX11_go 167 = .ok (.aload_n 0, 1) := by decide +kernel
theorem dX11_go_168 : decode cX11_go 168 = .ok (.aload_n 0, 1) := by decide +kernel
theorem dX11_go_169 : decode cX11_go 169 = .ok (.getfield 8, 3) := by decide +kernel
theorem dX11_go_172 : decode cX11_go 172 = .ok (.aload_n 0, 1) := by decide +kernel
theorem dX11_go_173 : decode cX11_go 173 = .ok (.getfield 46, 3) := by decide +kernel
theorem dX11_go_176 : decode cX11_go 176 = .ok (.iconst 4, 1) := by decide +kernel
theorem dX11_go_177 : decode cX11_go 177 = .ok (.idiv, 1) := by decide +kernel
theorem dX11_go_178 : decode cX11_go 178 = .ok (.iaload, 1) := by decide +kernel
theorem dX11_go_179 : decode cX11_go 179 = .ok (.invokevirtual 115, 3) := by decide +kernel
theorem dX11_go_182 : decode cX11_go 182 = .ok (.aload_n 0, 1) := by decide +kernel
theorem dX11_go_183 : decode cX11_go 183 = .ok (.getfield 103, 3) := by decide +kernel
theorem dX11_go_186 : decode cX11_go 186 = .ok (.ifCond .ge 28, 3) := by decide +kernel
theorem dX11_go_189 : decode cX11_go 189 = .ok (.aload_n 0, 1) := by decide +kernel
theorem dX11_go_190 : decode cX11_go 190 = .ok (.getfield 62, 3) := by decide +kernel
theorem dX11_go_193 : decode cX11_go 193 = .ok (.ifCond .ne 19, 3) := by decide +kernel
theorem dX11_go_196 : decode cX11_go 196 = .ok (.aload_n 0, 1) := by decide +kernel
theorem dX11_go_197 : decode cX11_go 197 = .ok (.getfield 14, 3) := by decide +kernel
theorem dX11_go_200 : decode cX11_go 200 = .ok (.bipush 15, 2) := by decide +kernel
theorem dX11_go_202 : decode cX11_go 202 = .ok (.aload_n 0, 1) := by decide +kernel
theorem dX11_go_203 : decode cX11_go 203 = .ok (.getfield 46, 3) := by decide +kernel
theorem dX11_go_206 : decode cX11_go 206 = .ok (.aload_n 0, 1) := by decide +kernel
theorem dX11_go_207 : decode cX11_go 207 = .ok (.getfield 100, 3) := by decide +kernel
theorem dX11_go_210 : decode cX11_go 210 = .ok (.iadd, 1) := by decide +kernel
theorem dX11_go_211 : decode cX11_go 211 = .ok (.iastore, 1) := by decide +kernel
theorem dX11_go_212 : decode cX11_go 212 = .ok (.iconst 0, 1) := by decide +kernel
theorem dX11_go_213 : decode cX11_go 213 = .ok (.ireturn, 1) := by decide +kernel
theorem dX11_go_214 : decode cX11_go 214 = .ok (.aload_n 0, 1) := by decide +kernel
theorem dX11_go_215 : decode cX11_go 215 = .ok (.aload_n 0, 1) := by decide +kernel
theorem dX11_go_216 : decode cX11_go 216 = .ok (.getfield 103, 3) := by decide +kernel
theorem dX11_go_219 : decode cX11_go 219 = .ok (.aload_n 0, 1) := by decide +kernel
theorem dX11_go_220 : decode cX11_go 220 = .ok (.getfield 103, 3) := by decide +kernel
theorem dX11_go_223 : decode cX11_go 223 = .ok (.iconst 2, 1) := by decide +kernel
theorem dX11_go_224 : decode cX11_go 224 = .ok (.if_icmp .ge 15, 3) := by decide +kernel
theorem dX11_go_227 : decode cX11_go 227 = .ok (.aload_n 0, 1) := by decide +kernel
theorem dX11_go_228 : decode cX11_go 228 = .ok (.getfield 46, 3) := by decide +kernel
theorem dX11_go_231 : decode cX11_go 231 = .ok (.aload_n 0, 1) := by decide +kernel
theorem dX11_go_232 : decode cX11_go 232 = .ok (.getfield 100, 3) := by decide +kernel
theorem dX11_go_235 : decode cX11_go 235 = .ok (.iadd, 1) := by decide +kernel
theorem dX11_go_236 : decode cX11_go 236 = .ok (.goto 27, 3) := by decide +kernel
theorem dX11_go_239 : decode cX11_go 239 = .ok (.aload_n 0, 1) := by decide +kernel
theorem dX11_go_240 : decode cX11_go 240 = .ok (.getfield 103, 3) := by decide +kernel
theorem dX11_go_243 : decode cX11_go 243 = .ok (.iconst 2, 1) := by decide +kernel
theorem dX11_go_244 : decode cX11_go 244 = .ok (.if_icmp .ne 12, 3) := by decide +kernel
theorem dX11_go_247 : decode cX11_go 247 = .ok (.aload_n 0, 1) := by decide +kernel
theorem dX11_go_248 : decode cX11_go 248 = .ok (.getfield 46, 3) := by decide +kernel
theorem dX11_go_251 : decode cX11_go 251 = .ok (.iconst 4, 1) := by decide +kernel
theorem dX11_go_252 : decode cX11_go 252 = .ok (.iadd, 1) := by decide +kernel
theorem dX11_go_253 : decode cX11_go 253 = .ok (.goto 10, 3) := by decide +kernel
theorem dX11_go_256 : decode cX11_go 256 = .ok (.aload_n 0, 1) := by decide +kernel
theorem dX11_go_257 : decode cX11_go 257 = .ok (.getfield 46, 3) := by decide +kernel
theorem dX11_go_260 : decode cX11_go 260 = .ok (.bipush 8, 2) := by decide +kernel
theorem dX11_go_262 : decode cX11_go 262 = .ok (.iadd, 1) := by decide +kernel
theorem dX11_go_263 : decode cX11_go 263 = .ok (.invokevirtual 96, 3) := by decide +kernel
theorem dX11_go_266 : decode cX11_go 266 = .ok (.iconst 1, 1) := by decide +kernel
theorem dX11_go_267 : decode cX11_go 267 = .ok (.ireturn, 1) := by decide +kernel
theorem dX11_step_0 : decode cX11_step 0 = .ok (.aload_n 0, 1) := by decide +kernel
theorem dX11_step_1 : decode cX11_step 1 = .ok (.iconst 0, 1) := by decide +kernel
theorem dX11_step_2 : decode cX11_step 2 = .ok (.putfield 31, 3) := by decide +kernel
theorem dX11_step_5 : decode cX11_step 5 = .ok (.iload_n 1, 1) := by decide +kernel
theorem dX11_step_6 : decode cX11_step 6 = .ok (.iconst 1, 1) := by decide +kernel
theorem dX11_step_7 : decode cX11_step 7 = .ok (.sipush 20000, 3) := by decide +kernel
theorem dX11_step_10 : decode cX11_step 10 = .ok (.invokestatic 81, 3) := by decide +kernel
theorem dX11_step_13 : decode cX11_step 13 = .ok (.ifCond .ne 9, 3) := by decide +kernel
theorem dX11_step_16 : decode cX11_step 16 = .ok (.aload_n 0, 1) := by decide +kernel
theorem dX11_step_17 : decode cX11_step 17 = .ok (.iconst 1, 1) := by decide +kernel
theorem dX11_step_18 : decode cX11_step 18 = .ok (.invokevirtual 77, 3) := by decide +kernel
theorem dX11_step_21 : decode cX11_step 21 = .ok (.ireturn, 1) := by decide +kernel
theorem dX11_step_22 : decode cX11_step 22 = .ok (.iconst 0, 1) := by decide +kernel
theorem dX11_step_23 : decode cX11_step 23 = .ok (.istore_n 2, 1) := by decide +kernel
theorem dX11_step_24 : decode cX11_step 24 = .ok (.iconst 0, 1) := by decide +kernel
theorem dX11_step_25 : decode cX11_step 25 = .ok (.istore_n 3, 1) := by decide +kernel
theorem dX11_step_26 : decode cX11_step 26 = .ok (.iload_n 3, 1) := by decide +kernel
theorem dX11_step_27 : decode cX11_step 27 = .ok (.iload_n 1, 1) := by decide +kernel
theorem dX11_step_28 : decode cX11_step 28 = .ok (.if_icmp .ge 24, 3) := by decide +kernel
theorem dX11_step_31 : decode cX11_step 31 = .ok (.iload_n 2, 1) := by decide +kernel
theorem dX11_step_32 : decode cX11_step 32 = .ok (.aload_n 0, 1) := by decide +kernel
theorem dX11_step_33 : decode cX11_step 33 = .ok (.invokevirtual 118, 3) := by decide +kernel
theorem dX11_step_36 : decode cX11_step 36 = .ok (.ifCond .eq 7, 3) := by decide +kernel
theorem dX11_step_39 : decode cX11_step 39 = .ok (.iconst 1, 1) := by decide +kernel
theorem dX11_step_40 : decode cX11_step 40 = .ok (.goto 4, 3) := by decide +kernel
theorem dX11_step_43 : decode cX11_step 43 = .ok (.iconst 0, 1) := by decide +kernel
theorem dX11_step_44 : decode cX11_step 44 = .ok (.iadd, 1) := by decide +kernel
theorem dX11_step_45 : decode cX11_step 45 = .ok (.istore_n 2, 1) := by decide +kernel
theorem dX11_step_46 : decode cX11_step 46 = .ok (.iinc 3 1, 3) := by decide +kernel
theorem dX11_step_49 : decode cX11_step 49 = .ok (.goto (-23), 3) := by decide +kernel
theorem dX11_step_52 : decode cX11_step 52 = .ok (.iload_n 2, 1) := by decide +kernel
theorem dX11_step_53 : decode cX11_step 53 = .ok (.ireturn, 1) := by decide +kernel
theorem dX11_undefined_0 : decode cX11_undefined 0 = .ok (.aload_n 0, 1) := by decide +kernel
theorem dX11_undefined_1 : decode cX11_undefined 1 = .ok (.iconst 0, 1) := by decide +kernel
theorem dX11_undefined_2 : decode cX11_undefined 2 = .ok (.putfield 103, 3) := by decide +kernel
theorem dX11_undefined_5 : decode cX11_undefined 5 = .ok (.return_, 1) := by decide +kernel
theorem dX11_isThere_0 : decode cX11_isThere 0 = .ok (.iload_n 0, 1) := by decide +kernel
theorem dX11_isThere_1 : decode cX11_isThere 1 = .ok (.iconst 0, 1) := by decide +kernel
theorem dX11_isThere_2 : decode cX11_isThere 2 = .ok (.ldc 80, 2) := by decide +kernel
theorem dX11_isThere_4 : decode cX11_isThere 4 = .ok (.invokestatic 81, 3) := by decide +kernel
theorem dX11_isThere_7 : decode cX11_isThere 7 = .ok (.ireturn, 1) := by decide +kernel
theorem dX11_byteAt_0 : decode cX11_byteAt 0 = .ok (.aload_n 0, 1) := by decide +kernel
theorem dX11_byteAt_1 : decode cX11_byteAt 1 = .ok (.getfield 8, 3) := by decide +kernel
theorem dX11_byteAt_4 : decode cX11_byteAt 4 = .ok (.iload_n 1, 1) := by decide +kernel
theorem dX11_byteAt_5 : decode cX11_byteAt 5 = .ok (.iconst 4, 1) := by decide +kernel
theorem dX11_byteAt_6 : decode cX11_byteAt 6 = .ok (.idiv, 1) := by decide +kernel
theorem dX11_byteAt_7 : decode cX11_byteAt 7 = .ok (.iaload, 1) := by decide +kernel
theorem dX11_byteAt_8 : decode cX11_byteAt 8 = .ok (.bipush 8, 2) := by decide +kernel
theorem dX11_byteAt_10 : decode cX11_byteAt 10 = .ok (.iload_n 1, 1) := by decide +kernel
theorem dX11_byteAt_11 : decode cX11_byteAt 11 = .ok (.iconst 4, 1) := by decide +kernel
theorem dX11_byteAt_12 : decode cX11_byteAt 12 = .ok (.irem, 1) := by decide +kernel
theorem dX11_byteAt_13 : decode cX11_byteAt 13 = .ok (.imul, 1) := by decide +kernel
theorem dX11_byteAt_14 : decode cX11_byteAt 14 = .ok (.ishr, 1) := by decide +kernel
theorem dX11_byteAt_15 : decode cX11_byteAt 15 = .ok (.sipush 255, 3) := by decide +kernel
theorem dX11_byteAt_18 : decode cX11_byteAt 18 = .ok (.iand, 1) := by decide +kernel
theorem dX11_byteAt_19 : decode cX11_byteAt 19 = .ok (.ireturn, 1) := by decide +kernel
theorem dX11_halfAt_0 : decode cX11_halfAt 0 = .ok (.aload_n 0, 1) := by decide +kernel
theorem dX11_halfAt_1 : decode cX11_halfAt 1 = .ok (.getfield 8, 3) := by decide +kernel
theorem dX11_halfAt_4 : decode cX11_halfAt 4 = .ok (.iload_n 1, 1) := by decide +kernel
theorem dX11_halfAt_5 : decode cX11_halfAt 5 = .ok (.iconst 4, 1) := by decide +kernel
theorem dX11_halfAt_6 : decode cX11_halfAt 6 = .ok (.idiv, 1) := by decide +kernel
theorem dX11_halfAt_7 : decode cX11_halfAt 7 = .ok (.iaload, 1) := by decide +kernel
theorem dX11_halfAt_8 : decode cX11_halfAt 8 = .ok (.bipush 8, 2) := by decide +kernel
theorem dX11_halfAt_10 : decode cX11_halfAt 10 = .ok (.iload_n 1, 1) := by decide +kernel
theorem dX11_halfAt_11 : decode cX11_halfAt 11 = .ok (.iconst 2, 1) := by decide +kernel
theorem dX11_halfAt_12 : decode cX11_halfAt 12 = .ok (.iand, 1) := by decide +kernel
theorem dX11_halfAt_13 : decode cX11_halfAt 13 = .ok (.imul, 1) := by decide +kernel
theorem dX11_halfAt_14 : decode cX11_halfAt 14 = .ok (.ishr, 1) := by decide +kernel
theorem dX11_halfAt_15 : decode cX11_halfAt 15 = .ok (.ldc 121, 2) := by decide +kernel
theorem dX11_halfAt_17 : decode cX11_halfAt 17 = .ok (.iand, 1) := by decide +kernel
theorem dX11_halfAt_18 : decode cX11_halfAt 18 = .ok (.ireturn, 1) := by decide +kernel
theorem dX11_wordAt_0 : decode cX11_wordAt 0 = .ok (.aload_n 0, 1) := by decide +kernel
theorem dX11_wordAt_1 : decode cX11_wordAt 1 = .ok (.getfield 8, 3) := by decide +kernel
theorem dX11_wordAt_4 : decode cX11_wordAt 4 = .ok (.iload_n 1, 1) := by decide +kernel
theorem dX11_wordAt_5 : decode cX11_wordAt 5 = .ok (.iconst 4, 1) := by decide +kernel
theorem dX11_wordAt_6 : decode cX11_wordAt 6 = .ok (.idiv, 1) := by decide +kernel
theorem dX11_wordAt_7 : decode cX11_wordAt 7 = .ok (.iaload, 1) := by decide +kernel
theorem dX11_wordAt_8 : decode cX11_wordAt 8 = .ok (.istore_n 2, 1) := by decide +kernel
theorem dX11_wordAt_9 : decode cX11_wordAt 9 = .ok (.bipush 8, 2) := by decide +kernel
theorem dX11_wordAt_11 : decode cX11_wordAt 11 = .ok (.iload_n 1, 1) := by decide +kernel
theorem dX11_wordAt_12 : decode cX11_wordAt 12 = .ok (.iconst 4, 1) := by decide +kernel
theorem dX11_wordAt_13 : decode cX11_wordAt 13 = .ok (.irem, 1) := by decide +kernel
theorem dX11_wordAt_14 : decode cX11_wordAt 14 = .ok (.imul, 1) := by decide +kernel
theorem dX11_wordAt_15 : decode cX11_wordAt 15 = .ok (.istore_n 3, 1) := by decide +kernel
theorem dX11_wordAt_16 : decode cX11_wordAt 16 = .ok (.iload_n 3, 1) := by decide +kernel
theorem dX11_wordAt_17 : decode cX11_wordAt 17 = .ok (.ifCond .ne 7, 3) := by decide +kernel
theorem dX11_wordAt_20 : decode cX11_wordAt 20 = .ok (.iload_n 2, 1) := by decide +kernel
theorem dX11_wordAt_21 : decode cX11_wordAt 21 = .ok (.goto 13, 3) := by decide +kernel
theorem dX11_wordAt_24 : decode cX11_wordAt 24 = .ok (.iload_n 2, 1) := by decide +kernel
theorem dX11_wordAt_25 : decode cX11_wordAt 25 = .ok (.iload_n 3, 1) := by decide +kernel
theorem dX11_wordAt_26 : decode cX11_wordAt 26 = .ok (.iushr, 1) := by decide +kernel
theorem dX11_wordAt_27 : decode cX11_wordAt 27 = .ok (.iload_n 2, 1) := by decide +kernel
theorem dX11_wordAt_28 : decode cX11_wordAt 28 = .ok (.bipush 32, 2) := by decide +kernel
theorem dX11_wordAt_30 : decode cX11_wordAt 30 = .ok (.iload_n 3, 1) := by decide +kernel
theorem dX11_wordAt_31 : decode cX11_wordAt 31 = .ok (.isub, 1) := by decide +kernel
theorem dX11_wordAt_32 : decode cX11_wordAt 32 = .ok (.ishl, 1) := by decide +kernel
theorem dX11_wordAt_33 : decode cX11_wordAt 33 = .ok (.ior, 1) := by decide +kernel
theorem dX11_wordAt_34 : decode cX11_wordAt 34 = .ok (.ireturn, 1) := by decide +kernel
theorem dX11_storeAt_0 : decode cX11_storeAt 0 = .ok (.iload_n 2, 1) := by decide +kernel
theorem dX11_storeAt_1 : decode cX11_storeAt 1 = .ok (.iconst 4, 1) := by decide +kernel
theorem dX11_storeAt_2 : decode cX11_storeAt 2 = .ok (.if_icmp .ne 7, 3) := by decide +kernel
theorem dX11_storeAt_5 : decode cX11_storeAt 5 = .ok (.iconst 0, 1) := by decide +kernel
theorem dX11_storeAt_6 : decode cX11_storeAt 6 = .ok (.goto 23, 3) := by decide +kernel
theorem dX11_storeAt_9 : decode cX11_storeAt 9 = .ok (.iload_n 2, 1) := by decide +kernel
theorem dX11_storeAt_10 : decode cX11_storeAt 10 = .ok (.iconst 2, 1) := by decide +kernel
theorem dX11_storeAt_11 : decode cX11_storeAt 11 = .ok (.if_icmp .ne 12, 3) := by decide +kernel
theorem dX11_storeAt_14 : decode cX11_storeAt 14 = .ok (.bipush 8, 2) := by decide +kernel
theorem dX11_storeAt_16 : decode cX11_storeAt 16 = .ok (.iload_n 1, 1) := by decide +kernel
theorem dX11_storeAt_17 : decode cX11_storeAt 17 = .ok (.iconst 2, 1) := by decide +kernel
theorem dX11_storeAt_18 : decode cX11_storeAt 18 = .ok (.iand, 1) := by decide +kernel
theorem dX11_storeAt_19 : decode cX11_storeAt 19 = .ok (.imul, 1) := by decide +kernel
theorem dX11_storeAt_20 : decode cX11_storeAt 20 = .ok (.goto 9, 3) := by decide +kernel
theorem dX11_storeAt_23 : decode cX11_storeAt 23 = .ok (.bipush 8, 2) := by decide +kernel
theorem dX11_storeAt_25 : decode cX11_storeAt 25 = .ok (.iload_n 1, 1) := by decide +kernel
theorem dX11_storeAt_26 : decode cX11_storeAt 26 = .ok (.iconst 4, 1) := by decide +kernel
theorem dX11_storeAt_27 : decode cX11_storeAt 27 = .ok (.irem, 1) := by decide +kernel
theorem dX11_storeAt_28 : decode cX11_storeAt 28 = .ok (.imul, 1) := by decide +kernel
theorem dX11_storeAt_29 : decode cX11_storeAt 29 = .ok (.istore 4, 2) := by decide +kernel
theorem dX11_storeAt_31 : decode cX11_storeAt 31 = .ok (.iload_n 2, 1) := by decide +kernel
theorem dX11_storeAt_32 : decode cX11_storeAt 32 = .ok (.iconst 4, 1) := by decide +kernel
theorem dX11_storeAt_33 : decode cX11_storeAt 33 = .ok (.if_icmp .ne 7, 3) := by decide +kernel
theorem dX11_storeAt_36 : decode cX11_storeAt 36 = .ok (.iconst (-1), 1) := by decide +kernel
theorem dX11_storeAt_37 : decode cX11_storeAt 37 = .ok (.goto 22, 3) := by decide +kernel
theorem dX11_storeAt_40 : decode cX11_storeAt 40 = .ok (.iload_n 2, 1) := by decide +kernel
theorem dX11_storeAt_41 : decode cX11_storeAt 41 = .ok (.iconst 2, 1) := by decide +kernel
theorem dX11_storeAt_42 : decode cX11_storeAt 42 = .ok (.if_icmp .ne 11, 3) := by decide +kernel
theorem dX11_storeAt_45 : decode cX11_storeAt 45 = .ok (.ldc 121, 2) := by decide +kernel
theorem dX11_storeAt_47 : decode cX11_storeAt 47 = .ok (.iload 4, 2) := by decide +kernel
theorem dX11_storeAt_49 : decode cX11_storeAt 49 = .ok (.ishl, 1) := by decide +kernel
theorem dX11_storeAt_50 : decode cX11_storeAt 50 = .ok (.goto 9, 3) := by decide +kernel
theorem dX11_storeAt_53 : decode cX11_storeAt 53 = .ok (.sipush 255, 3) := by decide +kernel
theorem dX11_storeAt_56 : decode cX11_storeAt 56 = .ok (.iload 4, 2) := by decide +kernel
theorem dX11_storeAt_58 : decode cX11_storeAt 58 = .ok (.ishl, 1) := by decide +kernel
theorem dX11_storeAt_59 : decode cX11_storeAt 59 = .ok (.istore 5, 2) := by decide +kernel
theorem dX11_storeAt_61 : decode cX11_storeAt 61 = .ok (.aload_n 0, 1) := by decide +kernel
theorem dX11_storeAt_62 : decode cX11_storeAt 62 = .ok (.getfield 8, 3) := by decide +kernel
theorem dX11_storeAt_65 : decode cX11_storeAt 65 = .ok (.iload_n 1, 1) := by decide +kernel
theorem dX11_storeAt_66 : decode cX11_storeAt 66 = .ok (.iconst 4, 1) := by decide +kernel
theorem dX11_storeAt_67 : decode cX11_storeAt 67 = .ok (.idiv, 1) := by decide +kernel
theorem dX11_storeAt_68 : decode cX11_storeAt 68 = .ok (.aload_n 0, 1) := by decide +kernel
theorem dX11_storeAt_69 : decode cX11_storeAt 69 = .ok (.getfield 8, 3) := by decide +kernel
theorem dX11_storeAt_72 : decode cX11_storeAt 72 = .ok (.iload_n 1, 1) := by decide +kernel
theorem dX11_storeAt_73 : decode cX11_storeAt 73 = .ok (.iconst 4, 1) := by decide +kernel
theorem dX11_storeAt_74 : decode cX11_storeAt 74 = .ok (.idiv, 1) := by decide +kernel
theorem dX11_storeAt_75 : decode cX11_storeAt 75 = .ok (.iaload, 1) := by decide +kernel
theorem dX11_storeAt_76 : decode cX11_storeAt 76 = .ok (.iload 5, 2) := by decide +kernel
theorem dX11_storeAt_78 : decode cX11_storeAt 78 = .ok (.iconst (-1), 1) := by decide +kernel
theorem dX11_storeAt_79 : decode cX11_storeAt 79 = .ok (.ixor, 1) := by decide +kernel
theorem dX11_storeAt_80 : decode cX11_storeAt 80 = .ok (.iand, 1) := by decide +kernel
theorem dX11_storeAt_81 : decode cX11_storeAt 81 = .ok (.iload_n 3, 1) := by decide +kernel
theorem dX11_storeAt_82 : decode cX11_storeAt 82 = .ok (.iload 4, 2) := by decide +kernel
theorem dX11_storeAt_84 : decode cX11_storeAt 84 = .ok (.ishl, 1) := by decide +kernel
theorem dX11_storeAt_85 : decode cX11_storeAt 85 = .ok (.iload 5, 2) := by decide +kernel
theorem dX11_storeAt_87 : decode cX11_storeAt 87 = .ok (.iand, 1) := by decide +kernel
theorem dX11_storeAt_88 : decode cX11_storeAt 88 = .ok (.ior, 1) := by decide +kernel
theorem dX11_storeAt_89 : decode cX11_storeAt 89 = .ok (.iastore, 1) := by decide +kernel
theorem dX11_storeAt_90 : decode cX11_storeAt 90 = .ok (.return_, 1) := by decide +kernel
theorem dX11_loaded_0 : decode cX11_loaded 0 = .ok (.iload_n 2, 1) := by decide +kernel
theorem dX11_loaded_1 : decode cX11_loaded 1 = .ok (.iconst 4, 1) := by decide +kernel
theorem dX11_loaded_2 : decode cX11_loaded 2 = .ok (.if_icmp .ne 9, 3) := by decide +kernel
theorem dX11_loaded_5 : decode cX11_loaded 5 = .ok (.aload_n 0, 1) := by decide +kernel
theorem dX11_loaded_6 : decode cX11_loaded 6 = .ok (.iload_n 1, 1) := by decide +kernel
theorem dX11_loaded_7 : decode cX11_loaded 7 = .ok (.invokevirtual 122, 3) := by decide +kernel
theorem dX11_loaded_10 : decode cX11_loaded 10 = .ok (.ireturn, 1) := by decide +kernel
theorem dX11_loaded_11 : decode cX11_loaded 11 = .ok (.iload_n 2, 1) := by decide +kernel
theorem dX11_loaded_12 : decode cX11_loaded 12 = .ok (.iconst 1, 1) := by decide +kernel
theorem dX11_loaded_13 : decode cX11_loaded 13 = .ok (.if_icmp .eq 8, 3) := by decide +kernel
theorem dX11_loaded_16 : decode cX11_loaded 16 = .ok (.iload_n 2, 1) := by decide +kernel
theorem dX11_loaded_17 : decode cX11_loaded 17 = .ok (.iconst (-1), 1) := by decide +kernel
theorem dX11_loaded_18 : decode cX11_loaded 18 = .ok (.if_icmp .ne 11, 3) := by decide +kernel
theorem dX11_loaded_21 : decode cX11_loaded 21 = .ok (.aload_n 0, 1) := by decide +kernel
theorem dX11_loaded_22 : decode cX11_loaded 22 = .ok (.iload_n 1, 1) := by decide +kernel
theorem dX11_loaded_23 : decode cX11_loaded 23 = .ok (.invokevirtual 125, 3) := by decide +kernel
theorem dX11_loaded_26 : decode cX11_loaded 26 = .ok (.goto 8, 3) := by decide +kernel
theorem dX11_loaded_29 : decode cX11_loaded 29 = .ok (.aload_n 0, 1) := by decide +kernel
theorem dX11_loaded_30 : decode cX11_loaded 30 = .ok (.iload_n 1, 1) := by decide +kernel
theorem dX11_loaded_31 : decode cX11_loaded 31 = .ok (.invokevirtual 109, 3) := by decide +kernel
theorem dX11_loaded_34 : decode cX11_loaded 34 = .ok (.istore_n 3, 1) := by decide +kernel
theorem dX11_loaded_35 : decode cX11_loaded 35 = .ok (.iload_n 2, 1) := by decide +kernel
theorem dX11_loaded_36 : decode cX11_loaded 36 = .ok (.iconst (-1), 1) := by decide +kernel
theorem dX11_loaded_37 : decode cX11_loaded 37 = .ok (.if_icmp .ne 13, 3) := by decide +kernel
theorem dX11_loaded_40 : decode cX11_loaded 40 = .ok (.iload_n 3, 1) := by decide +kernel
theorem dX11_loaded_41 : decode cX11_loaded 41 = .ok (.bipush 24, 2) := by decide +kernel
theorem dX11_loaded_43 : decode cX11_loaded 43 = .ok (.ishl, 1) := by decide +kernel
theorem dX11_loaded_44 : decode cX11_loaded 44 = .ok (.bipush 24, 2) := by decide +kernel
theorem dX11_loaded_46 : decode cX11_loaded 46 = .ok (.ishr, 1) := by decide +kernel
theorem dX11_loaded_47 : decode cX11_loaded 47 = .ok (.goto 20, 3) := by decide +kernel
theorem dX11_loaded_50 : decode cX11_loaded 50 = .ok (.iload_n 2, 1) := by decide +kernel
theorem dX11_loaded_51 : decode cX11_loaded 51 = .ok (.bipush (-2), 2) := by decide +kernel
theorem dX11_loaded_53 : decode cX11_loaded 53 = .ok (.if_icmp .ne 13, 3) := by decide +kernel
theorem dX11_loaded_56 : decode cX11_loaded 56 = .ok (.iload_n 3, 1) := by decide +kernel
theorem dX11_loaded_57 : decode cX11_loaded 57 = .ok (.bipush 16, 2) := by decide +kernel
theorem dX11_loaded_59 : decode cX11_loaded 59 = .ok (.ishl, 1) := by decide +kernel
theorem dX11_loaded_60 : decode cX11_loaded 60 = .ok (.bipush 16, 2) := by decide +kernel
theorem dX11_loaded_62 : decode cX11_loaded 62 = .ok (.ishr, 1) := by decide +kernel
theorem dX11_loaded_63 : decode cX11_loaded 63 = .ok (.goto 4, 3) := by decide +kernel
theorem dX11_loaded_66 : decode cX11_loaded 66 = .ok (.iload_n 3, 1) := by decide +kernel
theorem dX11_loaded_67 : decode cX11_loaded 67 = .ok (.ireturn, 1) := by decide +kernel
theorem dX11_transfer_0 : decode cX11_transfer 0 = .ok (.iload 4, 2) := by decide +kernel
theorem dX11_transfer_2 : decode cX11_transfer 2 = .ok (.invokestatic 106, 3) := by decide +kernel
theorem dX11_transfer_5 : decode cX11_transfer 5 = .ok (.ifCond .ne 9, 3) := by decide +kernel
theorem dX11_transfer_8 : decode cX11_transfer 8 = .ok (.aload_n 0, 1) := by decide +kernel
theorem dX11_transfer_9 : decode cX11_transfer 9 = .ok (.iconst 3, 1) := by decide +kernel
theorem dX11_transfer_10 : decode cX11_transfer 10 = .ok (.putfield 103, 3) := by decide +kernel
theorem dX11_transfer_13 : decode cX11_transfer 13 = .ok (.return_, 1) := by decide +kernel
theorem dX11_transfer_14 : decode cX11_transfer 14 = .ok (.iload_n 1, 1) := by decide +kernel
theorem dX11_transfer_15 : decode cX11_transfer 15 = .ok (.ifCond .eq 13, 3) := by decide +kernel
theorem dX11_transfer_18 : decode cX11_transfer 18 = .ok (.aload_n 0, 1) := by decide +kernel
theorem dX11_transfer_19 : decode cX11_transfer 19 = .ok (.iload 4, 2) := by decide +kernel
theorem dX11_transfer_21 : decode cX11_transfer 21 = .ok (.iload_n 2, 1) := by decide +kernel
theorem dX11_transfer_22 : decode cX11_transfer 22 = .ok (.invokevirtual 128, 3) := by decide +kernel
theorem dX11_transfer_25 : decode cX11_transfer 25 = .ok (.goto 21, 3) := by decide +kernel
theorem dX11_transfer_28 : decode cX11_transfer 28 = .ok (.aload_n 0, 1) := by decide +kernel
theorem dX11_transfer_29 : decode cX11_transfer 29 = .ok (.iload_n 3, 1) := by decide +kernel
theorem dX11_transfer_30 : decode cX11_transfer 30 = .ok (.aload_n 0, 1) := by decide +kernel
theorem dX11_transfer_31 : decode cX11_transfer 31 = .ok (.invokevirtual 52, 3) := by decide +kernel
theorem dX11_transfer_34 : decode cX11_transfer 34 = .ok (.ifCond .eq 7, 3) := by decide +kernel
theorem dX11_transfer_37 : decode cX11_transfer 37 = .ok (.iconst 4, 1) := by decide +kernel
theorem dX11_transfer_38 : decode cX11_transfer 38 = .ok (.goto 5, 3) := by decide +kernel
theorem dX11_transfer_41 : decode cX11_transfer 41 = .ok (.bipush 12, 2) := by decide +kernel
theorem dX11_transfer_43 : decode cX11_transfer 43 = .ok (.invokevirtual 56, 3) := by decide +kernel
theorem dX11_transfer_46 : decode cX11_transfer 46 = .ok (.istore 7, 2) := by decide +kernel
theorem dX11_transfer_48 : decode cX11_transfer 48 = .ok (.iload_n 1, 1) := by decide +kernel
theorem dX11_transfer_49 : decode cX11_transfer 49 = .ok (.ifCond .ne 21, 3) := by decide +kernel
theorem dX11_transfer_52 : decode cX11_transfer 52 = .ok (.aload_n 0, 1) := by decide +kernel
theorem dX11_transfer_53 : decode cX11_transfer 53 = .ok (.iload 4, 2) := by decide +kernel
theorem dX11_transfer_55 : decode cX11_transfer 55 = .ok (.iload_n 2, 1) := by decide +kernel
theorem dX11_transfer_56 : decode cX11_transfer 56 = .ok (.ifCond .ge 8, 3) := by decide +kernel
theorem dX11_transfer_59 : decode cX11_transfer 59 = .ok (.iload_n 2, 1) := by decide +kernel
theorem dX11_transfer_60 : decode cX11_transfer 60 = .ok (.ineg, 1) := by decide +kernel
theorem dX11_transfer_61 : decode cX11_transfer 61 = .ok (.goto 4, 3) := by decide +kernel
theorem dX11_transfer_64 : decode cX11_transfer 64 = .ok (.iload_n 2, 1) := by decide +kernel
theorem dX11_transfer_65 : decode cX11_transfer 65 = .ok (.iload 7, 2) := by decide +kernel
theorem dX11_transfer_67 : decode cX11_transfer 67 = .ok (.invokevirtual 131, 3) := by decide +kernel
theorem dX11_transfer_70 : decode cX11_transfer 70 = .ok (.iload 5, 2) := by decide +kernel
theorem dX11_transfer_72 : decode cX11_transfer 72 = .ok (.ifCond .lt 18, 3) := by decide +kernel
theorem dX11_transfer_75 : decode cX11_transfer 75 = .ok (.iload 5, 2) := by decide +kernel
theorem dX11_transfer_77 : decode cX11_transfer 77 = .ok (.bipush 15, 2) := by decide +kernel
theorem dX11_transfer_79 : decode cX11_transfer 79 = .ok (.if_icmp .eq 11, 3) := by decide +kernel
theorem dX11_transfer_82 : decode cX11_transfer 82 = .ok (.aload_n 0, 1) := by decide +kernel
theorem dX11_transfer_83 : decode cX11_transfer 83 = .ok (.iload 5, 2) := by decide +kernel
theorem dX11_transfer_85 : decode cX11_transfer 85 = .ok (.iload 6, 2) := by decide +kernel
theorem dX11_transfer_87 : decode cX11_transfer 87 = .ok (.invokevirtual 135, 3) := by decide +kernel
theorem dX11_transfer_90 : decode cX11_transfer 90 = .ok (.iload_n 1, 1) := by decide +kernel
theorem dX11_transfer_91 : decode cX11_transfer 91 = .ok (.ifCond .eq 10, 3) := by decide +kernel
theorem dX11_transfer_94 : decode cX11_transfer 94 = .ok (.aload_n 0, 1) := by decide +kernel
theorem dX11_transfer_95 : decode cX11_transfer 95 = .ok (.iload_n 3, 1) := by decide +kernel
theorem dX11_transfer_96 : decode cX11_transfer 96 = .ok (.iload 7, 2) := by decide +kernel
theorem dX11_transfer_98 : decode cX11_transfer 98 = .ok (.invokevirtual 135, 3) := by decide +kernel
theorem dX11_transfer_101 : decode cX11_transfer 101 = .ok (.return_, 1) := by decide +kernel
theorem dX11_shift_0 : decode cX11_shift 0 = .ok (.aload_n 0, 1) := by decide +kernel
theorem dX11_shift_1 : decode cX11_shift 1 = .ok (.aload_n 0, 1) := by decide +kernel
theorem dX11_shift_2 : decode cX11_shift 2 = .ok (.bipush 29, 2) := by decide +kernel
theorem dX11_shift_4 : decode cX11_shift 4 = .ok (.invokevirtual 92, 3) := by decide +kernel
theorem dX11_shift_7 : decode cX11_shift 7 = .ok (.putfield 138, 3) := by decide +kernel
theorem dX11_shift_10 : decode cX11_shift 10 = .ok (.iload_n 3, 1) := by decide +kernel
theorem dX11_shift_11 : decode cX11_shift 11 = .ok (.ifCond .ne 5, 3) := by decide +kernel
theorem dX11_shift_14 : decode cX11_shift 14 = .ok (.iload_n 2, 1) := by decide +kernel
theorem dX11_shift_15 : decode cX11_shift 15 = .ok (.ireturn, 1) := by decide +kernel
theorem dX11_shift_16 : decode cX11_shift 16 = .ok (.iload_n 1, 1) := by decide +kernel
theorem dX11_shift_17 : decode cX11_shift 17 = .ok (.iconst 3, 1) := by decide +kernel
theorem dX11_shift_18 : decode cX11_shift 18 = .ok (.if_icmp .ne 49, 3) := by decide +kernel
theorem dX11_shift_21 : decode cX11_shift 21 = .ok (.iload_n 3, 1) := by decide +kernel
theorem dX11_shift_22 : decode cX11_shift 22 = .ok (.bipush 31, 2) := by decide +kernel
theorem dX11_shift_24 : decode cX11_shift 24 = .ok (.iand, 1) := by decide +kernel
theorem dX11_shift_25 : decode cX11_shift 25 = .ok (.istore 4, 2) := by decide +kernel
theorem dX11_shift_27 : decode cX11_shift 27 = .ok (.iload 4, 2) := by decide +kernel
theorem dX11_shift_29 : decode cX11_shift 29 = .ok (.ifCond .ne 7, 3) := by decide +kernel
theorem dX11_shift_32 : decode cX11_shift 32 = .ok (.iload_n 2, 1) := by decide +kernel
theorem dX11_shift_33 : decode cX11_shift 33 = .ok (.goto 15, 3) := by decide +kernel
theorem dX11_shift_36 : decode cX11_shift 36 = .ok (.iload_n 2, 1) := by decide +kernel
theorem dX11_shift_37 : decode cX11_shift 37 = .ok (.iload 4, 2) := by decide +kernel
theorem dX11_shift_39 : decode cX11_shift 39 = .ok (.iushr, 1) := by decide +kernel
theorem dX11_shift_40 : decode cX11_shift 40 = .ok (.iload_n 2, 1) := by decide +kernel
theorem dX11_shift_41 : decode cX11_shift 41 = .ok (.bipush 32, 2) := by decide +kernel
theorem dX11_shift_43 : decode cX11_shift 43 = .ok (.iload 4, 2) := by decide +kernel
theorem dX11_shift_45 : decode cX11_shift 45 = .ok (.isub, 1) := by decide +kernel
theorem dX11_shift_46 : decode cX11_shift 46 = .ok (.ishl, 1) := by decide +kernel
theorem dX11_shift_47 : decode cX11_shift 47 = .ok (.ior, 1) := by decide +kernel
theorem dX11_shift_48 : decode cX11_shift 48 = .ok (.istore 5, 2) := by decide +kernel
theorem dX11_shift_50 : decode cX11_shift 50 = .ok (.aload_n 0, 1) := by decide +kernel
theorem dX11_shift_51 : decode cX11_shift 51 = .ok (.iload 5, 2) := by decide +kernel
theorem dX11_shift_53 : decode cX11_shift 53 = .ok (.ifCond .ge 7, 3) := by decide +kernel
theorem dX11_shift_56 : decode cX11_shift 56 = .ok (.iconst 1, 1) := by decide +kernel
theorem dX11_shift_57 : decode cX11_shift 57 = .ok (.goto 4, 3) := by decide +kernel
theorem dX11_shift_60 : decode cX11_shift 60 = .ok (.iconst 0, 1) := by decide +kernel
theorem dX11_shift_61 : decode cX11_shift 61 = .ok (.putfield 138, 3) := by decide +kernel
theorem dX11_shift_64 : decode cX11_shift 64 = .ok (.iload 5, 2) := by decide +kernel
theorem dX11_shift_66 : decode cX11_shift 66 = .ok (.ireturn, 1) := by decide +kernel
theorem dX11_shift_67 : decode cX11_shift 67 = .ok (.iload_n 3, 1) := by decide +kernel
theorem dX11_shift_68 : decode cX11_shift 68 = .ok (.bipush 33, 2) := by decide +kernel
theorem dX11_shift_70 : decode cX11_shift 70 = .ok (.if_icmp .le 8, 3) := by decide +kernel
theorem dX11_shift_73 : decode cX11_shift 73 = .ok (.bipush 33, 2) := by decide +kernel
theorem dX11_shift_75 : decode cX11_shift 75 = .ok (.goto 4, 3) := by decide +kernel
theorem dX11_shift_78 : decode cX11_shift 78 = .ok (.iload_n 3, 1) := by decide +kernel
theorem dX11_shift_79 : decode cX11_shift 79 = .ok (.istore 4, 2) := by decide +kernel
theorem dX11_shift_81 : decode cX11_shift 81 = .ok (.iload_n 2, 1) := by decide +kernel
theorem dX11_shift_82 : decode cX11_shift 82 = .ok (.istore 5, 2) := by decide +kernel
theorem dX11_shift_84 : decode cX11_shift 84 = .ok (.iconst 0, 1) := by decide +kernel
theorem dX11_shift_85 : decode cX11_shift 85 = .ok (.istore 6, 2) := by decide +kernel
theorem dX11_shift_87 : decode cX11_shift 87 = .ok (.iload 6, 2) := by decide +kernel
theorem dX11_shift_89 : decode cX11_shift 89 = .ok (.iload 4, 2) := by decide +kernel
theorem dX11_shift_91 : decode cX11_shift 91 = .ok (.if_icmp .ge 72, 3) := by decide +kernel
theorem dX11_shift_94 : decode cX11_shift 94 = .ok (.aload_n 0, 1) := by decide +kernel
theorem dX11_shift_95 : decode cX11_shift 95 = .ok (.iload_n 1, 1) := by decide +kernel
theorem dX11_shift_96 : decode cX11_shift 96 = .ok (.ifCond .ne 16, 3) := by decide +kernel
theorem dX11_shift_99 : decode cX11_shift 99 = .ok (.iload 5, 2) := by decide +kernel
theorem dX11_shift_101 : decode cX11_shift 101 = .ok (.ifCond .ge 7, 3) := by decide +kernel
theorem dX11_shift_104 : decode cX11_shift 104 = .ok (.iconst 1, 1) := by decide +kernel
theorem dX11_shift_105 : decode cX11_shift 105 = .ok (.goto 20, 3) := by decide +kernel
theorem dX11_shift_108 : decode cX11_shift 108 = .ok (.iconst 0, 1) := by decide +kernel
theorem dX11_shift_109 : decode cX11_shift 109 = .ok (.goto 16, 3) := by decide +kernel
theorem dX11_shift_112 : decode cX11_shift 112 = .ok (.iload 5, 2) := by decide +kernel
theorem dX11_shift_114 : decode cX11_shift 114 = .ok (.iconst 1, 1) := by decide +kernel
theorem dX11_shift_115 : decode cX11_shift 115 = .ok (.iand, 1) := by decide +kernel
theorem dX11_shift_116 : decode cX11_shift 116 = .ok (.iconst 1, 1) := by decide +kernel
theorem dX11_shift_117 : decode cX11_shift 117 = .ok (.if_icmp .ne 7, 3) := by decide +kernel
theorem dX11_shift_120 : decode cX11_shift 120 = .ok (.iconst 1, 1) := by decide +kernel
theorem dX11_shift_121 : decode cX11_shift 121 = .ok (.goto 4, 3) := by decide +kernel
theorem dX11_shift_124 : decode cX11_shift 124 = .ok (.iconst 0, 1) := by decide +kernel
theorem dX11_shift_125 : decode cX11_shift 125 = .ok (.putfield 138, 3) := by decide +kernel
theorem dX11_shift_128 : decode cX11_shift 128 = .ok (.iload_n 1, 1) := by decide +kernel
theorem dX11_shift_129 : decode cX11_shift 129 = .ok (.ifCond .ne 10, 3) := by decide +kernel
theorem dX11_shift_132 : decode cX11_shift 132 = .ok (.iload 5, 2) := by decide +kernel
theorem dX11_shift_134 : decode cX11_shift 134 = .ok (.iconst 1, 1) := by decide +kernel
theorem dX11_shift_135 : decode cX11_shift 135 = .ok (.ishl, 1) := by decide +kernel
theorem dX11_shift_136 : decode cX11_shift 136 = .ok (.goto 19, 3) := by decide +kernel
theorem dX11_shift_139 : decode cX11_shift 139 = .ok (.iload_n 1, 1) := by decide +kernel
theorem dX11_shift_140 : decode cX11_shift 140 = .ok (.iconst 1, 1) := by decide +kernel
theorem dX11_shift_141 : decode cX11_shift 141 = .ok (.if_icmp .ne 10, 3) := by decide +kernel
theorem dX11_shift_144 : decode cX11_shift 144 = .ok (.iload 5, 2) := by decide +kernel
theorem dX11_shift_146 : decode cX11_shift 146 = .ok (.iconst 1, 1) := by decide +kernel
theorem dX11_shift_147 : decode cX11_shift 147 = .ok (.iushr, 1) := by decide +kernel
theorem dX11_shift_148 : decode cX11_shift 148 = .ok (.goto 7, 3) := by decide +kernel
theorem dX11_shift_151 : decode cX11_shift 151 = .ok (.iload 5, 2) := by decide +kernel
theorem dX11_shift_153 : decode cX11_shift 153 = .ok (.iconst 1, 1) := by decide +kernel
theorem dX11_shift_154 : decode cX11_shift 154 = .ok (.ishr, 1) := by decide +kernel
theorem dX11_shift_155 : decode cX11_shift 155 = .ok (.istore 5, 2) := by decide +kernel
theorem dX11_shift_157 : decode cX11_shift 157 = .ok (.iinc 6 1, 3) := by decide +kernel
theorem dX11_shift_160 : decode cX11_shift 160 = .ok (.goto (-73), 3) := by decide +kernel
theorem dX11_shift_163 : decode cX11_shift 163 = .ok (.iload 5, 2) := by decide +kernel
theorem dX11_shift_165 : decode cX11_shift 165 = .ok (.ireturn, 1) := by decide +kernel
theorem dX11_shiftBy_0 : decode cX11_shiftBy 0 = .ok (.iload_n 3, 1) := by decide +kernel
theorem dX11_shiftBy_1 : decode cX11_shiftBy 1 = .ok (.ifCond .gt 7, 3) := by decide +kernel
theorem dX11_shiftBy_4 : decode cX11_shiftBy 4 = .ok (.iload_n 1, 1) := by decide +kernel
theorem dX11_shiftBy_5 : decode cX11_shiftBy 5 = .ok (.ifCond .ne 11, 3) := by decide +kernel
theorem dX11_shiftBy_8 : decode cX11_shiftBy 8 = .ok (.aload_n 0, 1) := by decide +kernel
theorem dX11_shiftBy_9 : decode cX11_shiftBy 9 = .ok (.iload_n 1, 1) := by decide +kernel
theorem dX11_shiftBy_10 : decode cX11_shiftBy 10 = .ok (.iload_n 2, 1) := by decide +kernel
theorem dX11_shiftBy_11 : decode cX11_shiftBy 11 = .ok (.iload_n 3, 1) := by decide +kernel
theorem dX11_shiftBy_12 : decode cX11_shiftBy 12 = .ok (.invokevirtual 141, 3) := by decide +kernel
theorem dX11_shiftBy_15 : decode cX11_shiftBy 15 = .ok (.ireturn, 1) := by decide +kernel
theorem dX11_shiftBy_16 : decode cX11_shiftBy 16 = .ok (.iload_n 1, 1) := by decide +kernel
theorem dX11_shiftBy_17 : decode cX11_shiftBy 17 = .ok (.iconst 3, 1) := by decide +kernel
theorem dX11_shiftBy_18 : decode cX11_shiftBy 18 = .ok (.if_icmp .ge 12, 3) := by decide +kernel
theorem dX11_shiftBy_21 : decode cX11_shiftBy 21 = .ok (.aload_n 0, 1) := by decide +kernel
theorem dX11_shiftBy_22 : decode cX11_shiftBy 22 = .ok (.iload_n 1, 1) := by decide +kernel
theorem dX11_shiftBy_23 : decode cX11_shiftBy 23 = .ok (.iload_n 2, 1) := by decide +kernel
theorem dX11_shiftBy_24 : decode cX11_shiftBy 24 = .ok (.bipush 32, 2) := by decide +kernel
theorem dX11_shiftBy_26 : decode cX11_shiftBy 26 = .ok (.invokevirtual 141, 3) := by decide +kernel
theorem dX11_shiftBy_29 : decode cX11_shiftBy 29 = .ok (.ireturn, 1) := by decide +kernel
theorem dX11_shiftBy_30 : decode cX11_shiftBy 30 = .ok (.iload_n 2, 1) := by decide +kernel
theorem dX11_shiftBy_31 : decode cX11_shiftBy 31 = .ok (.iconst 1, 1) := by decide +kernel
theorem dX11_shiftBy_32 : decode cX11_shiftBy 32 = .ok (.iushr, 1) := by decide +kernel
theorem dX11_shiftBy_33 : decode cX11_shiftBy 33 = .ok (.aload_n 0, 1) := by decide +kernel
theorem dX11_shiftBy_34 : decode cX11_shiftBy 34 = .ok (.bipush 29, 2) := by decide +kernel
theorem dX11_shiftBy_36 : decode cX11_shiftBy 36 = .ok (.invokevirtual 92, 3) := by decide +kernel
theorem dX11_shiftBy_39 : decode cX11_shiftBy 39 = .ok (.ifCond .eq 8, 3) := by decide +kernel
theorem dX11_shiftBy_42 : decode cX11_shiftBy 42 = .ok (.ldc 71, 2) := by decide +kernel
theorem dX11_shiftBy_44 : decode cX11_shiftBy 44 = .ok (.goto 4, 3) := by decide +kernel
theorem dX11_shiftBy_47 : decode cX11_shiftBy 47 = .ok (.iconst 0, 1) := by decide +kernel
theorem dX11_shiftBy_48 : decode cX11_shiftBy 48 = .ok (.ior, 1) := by decide +kernel
theorem dX11_shiftBy_49 : decode cX11_shiftBy 49 = .ok (.istore 4, 2) := by decide +kernel
theorem dX11_shiftBy_51 : decode cX11_shiftBy 51 = .ok (.aload_n 0, 1) := by decide +kernel
theorem dX11_shiftBy_52 : decode cX11_shiftBy 52 = .ok (.iload_n 2, 1) := by decide +kernel
theorem dX11_shiftBy_53 : decode cX11_shiftBy 53 = .ok (.iconst 1, 1) := by decide +kernel
theorem dX11_shiftBy_54 : decode cX11_shiftBy 54 = .ok (.iand, 1) := by decide +kernel
theorem dX11_shiftBy_55 : decode cX11_shiftBy 55 = .ok (.iconst 1, 1) := by decide +kernel
theorem dX11_shiftBy_56 : decode cX11_shiftBy 56 = .ok (.if_icmp .ne 7, 3) := by decide +kernel
theorem dX11_shiftBy_59 : decode cX11_shiftBy 59 = .ok (.iconst 1, 1) := by decide +kernel
theorem dX11_shiftBy_60 : decode cX11_shiftBy 60 = .ok (.goto 4, 3) := by decide +kernel
theorem dX11_shiftBy_63 : decode cX11_shiftBy 63 = .ok (.iconst 0, 1) := by decide +kernel
theorem dX11_shiftBy_64 : decode cX11_shiftBy 64 = .ok (.putfield 138, 3) := by decide +kernel
theorem dX11_shiftBy_67 : decode cX11_shiftBy 67 = .ok (.iload 4, 2) := by decide +kernel
theorem dX11_shiftBy_69 : decode cX11_shiftBy 69 = .ok (.ireturn, 1) := by decide +kernel
theorem dX11_sum_0 : decode cX11_sum 0 = .ok (.iload_n 1, 1) := by decide +kernel
theorem dX11_sum_1 : decode cX11_sum 1 = .ok (.i2l, 1) := by decide +kernel
theorem dX11_sum_2 : decode cX11_sum 2 = .ok (.ldc2_w 145, 3) := by decide +kernel
theorem dX11_sum_5 : decode cX11_sum 5 = .ok (.land, 1) := by decide +kernel
theorem dX11_sum_6 : decode cX11_sum 6 = .ok (.iload_n 2, 1) := by decide +kernel
theorem dX11_sum_7 : decode cX11_sum 7 = .ok (.i2l, 1) := by decide +kernel
theorem dX11_sum_8 : decode cX11_sum 8 = .ok (.ldc2_w 145, 3) := by decide +kernel
theorem dX11_sum_11 : decode cX11_sum 11 = .ok (.land, 1) := by decide +kernel
theorem dX11_sum_12 : decode cX11_sum 12 = .ok (.ladd, 1) := by decide +kernel
theorem dX11_sum_13 : decode cX11_sum 13 = .ok (.iload_n 3, 1) := by decide +kernel
theorem dX11_sum_14 : decode cX11_sum 14 = .ok (.i2l, 1) := by decide +kernel
theorem dX11_sum_15 : decode cX11_sum 15 = .ok (.ladd, 1) := by decide +kernel
theorem dX11_sum_16 : decode cX11_sum 16 = .ok (.lstore 4, 2) := by decide +kernel
theorem dX11_sum_18 : decode cX11_sum 18 = .ok (.iload_n 1, 1) := by decide +kernel
theorem dX11_sum_19 : decode cX11_sum 19 = .ok (.i2l, 1) := by decide +kernel
theorem dX11_sum_20 : decode cX11_sum 20 = .ok (.iload_n 2, 1) := by decide +kernel
theorem dX11_sum_21 : decode cX11_sum 21 = .ok (.i2l, 1) := by decide +kernel
theorem dX11_sum_22 : decode cX11_sum 22 = .ok (.ladd, 1) := by decide +kernel
theorem dX11_sum_23 : decode cX11_sum 23 = .ok (.iload_n 3, 1) := by decide +kernel
theorem dX11_sum_24 : decode cX11_sum 24 = .ok (.i2l, 1) := by decide +kernel
theorem dX11_sum_25 : decode cX11_sum 25 = .ok (.ladd, 1) := by decide +kernel
theorem dX11_sum_26 : decode cX11_sum 26 = .ok (.lstore 6, 2) := by decide +kernel
theorem dX11_sum_28 : decode cX11_sum 28 = .ok (.aload_n 0, 1) := by decide +kernel
theorem dX11_sum_29 : decode cX11_sum 29 = .ok (.lload 4, 2) := by decide +kernel
theorem dX11_sum_31 : decode cX11_sum 31 = .ok (.ldc2_w 145, 3) := by decide +kernel
theorem dX11_sum_34 : decode cX11_sum 34 = .ok (.lcmp, 1) := by decide +kernel
theorem dX11_sum_35 : decode cX11_sum 35 = .ok (.ifCond .le 7, 3) := by decide +kernel
theorem dX11_sum_38 : decode cX11_sum 38 = .ok (.iconst 1, 1) := by decide +kernel
theorem dX11_sum_39 : decode cX11_sum 39 = .ok (.goto 4, 3) := by decide +kernel
theorem dX11_sum_42 : decode cX11_sum 42 = .ok (.iconst 0, 1) := by decide +kernel
theorem dX11_sum_43 : decode cX11_sum 43 = .ok (.putfield 138, 3) := by decide +kernel
theorem dX11_sum_46 : decode cX11_sum 46 = .ok (.aload_n 0, 1) := by decide +kernel
theorem dX11_sum_47 : decode cX11_sum 47 = .ok (.lload 6, 2) := by decide +kernel
theorem dX11_sum_49 : decode cX11_sum 49 = .ok (.lload 6, 2) := by decide +kernel
theorem dX11_sum_51 : decode cX11_sum 51 = .ok (.l2i, 1) := by decide +kernel
theorem dX11_sum_52 : decode cX11_sum 52 = .ok (.i2l, 1) := by decide +kernel
theorem dX11_sum_53 : decode cX11_sum 53 = .ok (.lcmp, 1) := by decide +kernel
theorem dX11_sum_54 : decode cX11_sum 54 = .ok (.ifCond .eq 7, 3) := by decide +kernel
theorem dX11_sum_57 : decode cX11_sum 57 = .ok (.iconst 1, 1) := by decide +kernel
theorem dX11_sum_58 : decode cX11_sum 58 = .ok (.goto 4, 3) := by decide +kernel
theorem dX11_sum_61 : decode cX11_sum 61 = .ok (.iconst 0, 1) := by decide +kernel
theorem dX11_sum_62 : decode cX11_sum 62 = .ok (.putfield 147, 3) := by decide +kernel
theorem dX11_sum_65 : decode cX11_sum 65 = .ok (.lload 4, 2) := by decide +kernel
theorem dX11_sum_67 : decode cX11_sum 67 = .ok (.l2i, 1) := by decide +kernel
theorem dX11_sum_68 : decode cX11_sum 68 = .ok (.ireturn, 1) := by decide +kernel
theorem dX11_carryIn_0 : decode cX11_carryIn 0 = .ok (.aload_n 0, 1) := by decide +kernel
theorem dX11_carryIn_1 : decode cX11_carryIn 1 = .ok (.bipush 29, 2) := by decide +kernel
theorem dX11_carryIn_3 : decode cX11_carryIn 3 = .ok (.invokevirtual 92, 3) := by decide +kernel
theorem dX11_carryIn_6 : decode cX11_carryIn 6 = .ok (.ifCond .eq 7, 3) := by decide +kernel
theorem dX11_carryIn_9 : decode cX11_carryIn 9 = .ok (.iconst 1, 1) := by decide +kernel
theorem dX11_carryIn_10 : decode cX11_carryIn 10 = .ok (.goto 4, 3) := by decide +kernel
theorem dX11_carryIn_13 : decode cX11_carryIn 13 = .ok (.iconst 0, 1) := by decide +kernel
theorem dX11_carryIn_14 : decode cX11_carryIn 14 = .ok (.ireturn, 1) := by decide +kernel
theorem dX11_operate_0 : decode cX11_operate 0 = .ok (.iload_n 1, 1) := by decide +kernel
theorem dX11_operate_1 : decode cX11_operate 1 = .ok (.tableswitch 186 0 14 #[75, 79, 83, 93, 103, 111, 122, 135, 148, 152, 156, 166, 174, 178, 180], 75) := by decide +kernel
theorem dX11_operate_76 : decode cX11_operate 76 = .ok (.iload_n 2, 1) := by decide +kernel
theorem dX11_operate_77 : decode cX11_operate 77 = .ok (.iload_n 3, 1) := by decide +kernel
theorem dX11_operate_78 : decode cX11_operate 78 = .ok (.iand, 1) := by decide +kernel
theorem dX11_operate_79 : decode cX11_operate 79 = .ok (.ireturn, 1) := by decide +kernel
theorem dX11_operate_80 : decode cX11_operate 80 = .ok (.iload_n 2, 1) := by decide +kernel
theorem dX11_operate_81 : decode cX11_operate 81 = .ok (.iload_n 3, 1) := by decide +kernel
theorem dX11_operate_82 : decode cX11_operate 82 = .ok (.ixor, 1) := by decide +kernel
theorem dX11_operate_83 : decode cX11_operate 83 = .ok (.ireturn, 1) := by decide +kernel
theorem dX11_operate_84 : decode cX11_operate 84 = .ok (.aload_n 0, 1) := by decide +kernel
theorem dX11_operate_85 : decode cX11_operate 85 = .ok (.iload_n 2, 1) := by decide +kernel
theorem dX11_operate_86 : decode cX11_operate 86 = .ok (.iload_n 3, 1) := by decide +kernel
theorem dX11_operate_87 : decode cX11_operate 87 = .ok (.iconst (-1), 1) := by decide +kernel
theorem dX11_operate_88 : decode cX11_operate 88 = .ok (.ixor, 1) := by decide +kernel
theorem dX11_operate_89 : decode cX11_operate 89 = .ok (.iconst 1, 1) := by decide +kernel
theorem dX11_operate_90 : decode cX11_operate 90 = .ok (.invokevirtual 150, 3) := by decide +kernel
theorem dX11_operate_93 : decode cX11_operate 93 = .ok (.ireturn, 1) := by decide +kernel
theorem dX11_operate_94 : decode cX11_operate 94 = .ok (.aload_n 0, 1) := by decide +kernel
theorem dX11_operate_95 : decode cX11_operate 95 = .ok (.iload_n 3, 1) := by decide +kernel
theorem dX11_operate_96 : decode cX11_operate 96 = .ok (.iload_n 2, 1) := by decide +kernel
theorem dX11_operate_97 : decode cX11_operate 97 = .ok (.iconst (-1), 1) := by decide +kernel
theorem dX11_operate_98 : decode cX11_operate 98 = .ok (.ixor, 1) := by decide +kernel
theorem dX11_operate_99 : decode cX11_operate 99 = .ok (.iconst 1, 1) := by decide +kernel
theorem dX11_operate_100 : decode cX11_operate 100 = .ok (.invokevirtual 150, 3) := by decide +kernel
theorem dX11_operate_103 : decode cX11_operate 103 = .ok (.ireturn, 1) := by decide +kernel
theorem dX11_operate_104 : decode cX11_operate 104 = .ok (.aload_n 0, 1) := by decide +kernel
