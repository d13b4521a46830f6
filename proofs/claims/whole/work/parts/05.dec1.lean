theorem dX6_changeCpsr_15 : decode cX6_changeCpsr 15 = .ok (.ldc 55, 2) := by decide +kernel
theorem dX6_changeCpsr_17 : decode cX6_changeCpsr 17 = .ok (.iand, 1) := by decide +kernel
theorem dX6_changeCpsr_18 : decode cX6_changeCpsr 18 = .ok (.bipush (-32), 2) := by decide +kernel
theorem dX6_changeCpsr_20 : decode cX6_changeCpsr 20 = .ok (.iand, 1) := by decide +kernel
theorem dX6_changeCpsr_21 : decode cX6_changeCpsr 21 = .ok (.aload_n 0, 1) := by decide +kernel
theorem dX6_changeCpsr_22 : decode cX6_changeCpsr 22 = .ok (.getfield 18, 3) := by decide +kernel
theorem dX6_changeCpsr_25 : decode cX6_changeCpsr 25 = .ok (.bipush 31, 2) := by decide +kernel
theorem dX6_changeCpsr_27 : decode cX6_changeCpsr 27 = .ok (.iand, 1) := by decide +kernel
theorem dX6_changeCpsr_28 : decode cX6_changeCpsr 28 = .ok (.ior, 1) := by decide +kernel
theorem dX6_changeCpsr_29 : decode cX6_changeCpsr 29 = .ok (.putfield 18, 3) := by decide +kernel
theorem dX6_changeCpsr_32 : decode cX6_changeCpsr 32 = .ok (.goto 16, 3) := by decide +kernel
theorem dX6_changeCpsr_35 : decode cX6_changeCpsr 35 = .ok (.aload_n 0, 1) := by decide +kernel
theorem dX6_changeCpsr_36 : decode cX6_changeCpsr 36 = .ok (.iload_n 1, 1) := by decide +kernel
theorem dX6_changeCpsr_37 : decode cX6_changeCpsr 37 = .ok (.ldc 55, 2) := by decide +kernel
theorem dX6_changeCpsr_39 : decode cX6_changeCpsr 39 = .ok (.iand, 1) := by decide +kernel
theorem dX6_changeCpsr_40 : decode cX6_changeCpsr 40 = .ok (.putfield 18, 3) := by decide +kernel
theorem dX6_changeCpsr_43 : decode cX6_changeCpsr 43 = .ok (.aload_n 0, 1) := by decide +kernel
theorem dX6_changeCpsr_44 : decode cX6_changeCpsr 44 = .ok (.iload_n 2, 1) := by decide +kernel
theorem dX6_changeCpsr_45 : decode cX6_changeCpsr 45 = .ok (.putfield 22, 3) := by decide +kernel
theorem dX6_changeCpsr_48 : decode cX6_changeCpsr 48 = .ok (.return_, 1) := by decide +kernel
theorem dX6_mixIntoCpsr_0 : decode cX6_mixIntoCpsr 0 = .ok (.aload_n 0, 1) := by decide +kernel
theorem dX6_mixIntoCpsr_1 : decode cX6_mixIntoCpsr 1 = .ok (.getfield 18, 3) := by decide +kernel
theorem dX6_mixIntoCpsr_4 : decode cX6_mixIntoCpsr 4 = .ok (.bipush 31, 2) := by decide +kernel
theorem dX6_mixIntoCpsr_6 : decode cX6_mixIntoCpsr 6 = .ok (.iand, 1) := by decide +kernel
theorem dX6_mixIntoCpsr_7 : decode cX6_mixIntoCpsr 7 = .ok (.bipush 16, 2) := by decide +kernel
theorem dX6_mixIntoCpsr_9 : decode cX6_mixIntoCpsr 9 = .ok (.if_icmp .ne 7, 3) := by decide +kernel
theorem dX6_mixIntoCpsr_12 : decode cX6_mixIntoCpsr 12 = .ok (.iconst 1, 1) := by decide +kernel
theorem dX6_mixIntoCpsr_13 : decode cX6_mixIntoCpsr 13 = .ok (.goto 4, 3) := by decide +kernel
theorem dX6_mixIntoCpsr_16 : decode cX6_mixIntoCpsr 16 = .ok (.iconst 0, 1) := by decide +kernel
theorem dX6_mixIntoCpsr_17 : decode cX6_mixIntoCpsr 17 = .ok (.istore_n 3, 1) := by decide +kernel
theorem dX6_mixIntoCpsr_18 : decode cX6_mixIntoCpsr 18 = .ok (.iload_n 2, 1) := by decide +kernel
theorem dX6_mixIntoCpsr_19 : decode cX6_mixIntoCpsr 19 = .ok (.iload_n 3, 1) := by decide +kernel
theorem dX6_mixIntoCpsr_20 : decode cX6_mixIntoCpsr 20 = .ok (.ifCond .eq 8, 3) := by decide +kernel
theorem dX6_mixIntoCpsr_23 : decode cX6_mixIntoCpsr 23 = .ok (.ldc 56, 2) := by decide +kernel
theorem dX6_mixIntoCpsr_25 : decode cX6_mixIntoCpsr 25 = .ok (.goto 5, 3) := by decide +kernel
theorem dX6_mixIntoCpsr_28 : decode cX6_mixIntoCpsr 28 = .ok (.ldc 57, 2) := by decide +kernel
theorem dX6_mixIntoCpsr_30 : decode cX6_mixIntoCpsr 30 = .ok (.iand, 1) := by decide +kernel
theorem dX6_mixIntoCpsr_31 : decode cX6_mixIntoCpsr 31 = .ok (.istore 4, 2) := by decide +kernel
theorem dX6_mixIntoCpsr_33 : decode cX6_mixIntoCpsr 33 = .ok (.aload_n 0, 1) := by decide +kernel
theorem dX6_mixIntoCpsr_34 : decode cX6_mixIntoCpsr 34 = .ok (.aload_n 0, 1) := by decide +kernel
theorem dX6_mixIntoCpsr_35 : decode cX6_mixIntoCpsr 35 = .ok (.getfield 18, 3) := by decide +kernel
theorem dX6_mixIntoCpsr_38 : decode cX6_mixIntoCpsr 38 = .ok (.iload 4, 2) := by decide +kernel
theorem dX6_mixIntoCpsr_40 : decode cX6_mixIntoCpsr 40 = .ok (.iconst (-1), 1) := by decide +kernel
theorem dX6_mixIntoCpsr_41 : decode cX6_mixIntoCpsr 41 = .ok (.ixor, 1) := by decide +kernel
theorem dX6_mixIntoCpsr_42 : decode cX6_mixIntoCpsr 42 = .ok (.iand, 1) := by decide +kernel
theorem dX6_mixIntoCpsr_43 : decode cX6_mixIntoCpsr 43 = .ok (.iload_n 1, 1) := by decide +kernel
theorem dX6_mixIntoCpsr_44 : decode cX6_mixIntoCpsr 44 = .ok (.iload 4, 2) := by decide +kernel
theorem dX6_mixIntoCpsr_46 : decode cX6_mixIntoCpsr 46 = .ok (.iand, 1) := by decide +kernel
theorem dX6_mixIntoCpsr_47 : decode cX6_mixIntoCpsr 47 = .ok (.ior, 1) := by decide +kernel
theorem dX6_mixIntoCpsr_48 : decode cX6_mixIntoCpsr 48 = .ok (.invokevirtual 58, 3) := by decide +kernel
theorem dX6_mixIntoCpsr_51 : decode cX6_mixIntoCpsr 51 = .ok (.return_, 1) := by decide +kernel
theorem dX6_spsr_0 : decode cX6_spsr 0 = .ok (.aload_n 0, 1) := by decide +kernel
theorem dX6_spsr_1 : decode cX6_spsr 1 = .ok (.getfield 15, 3) := by decide +kernel
theorem dX6_spsr_4 : decode cX6_spsr 4 = .ok (.iload_n 1, 1) := by decide +kernel
theorem dX6_spsr_5 : decode cX6_spsr 5 = .ok (.iaload, 1) := by decide +kernel
theorem dX6_spsr_6 : decode cX6_spsr 6 = .ok (.ireturn, 1) := by decide +kernel
theorem dX6_changeSpsr_0 : decode cX6_changeSpsr 0 = .ok (.aload_n 0, 1) := by decide +kernel
theorem dX6_changeSpsr_1 : decode cX6_changeSpsr 1 = .ok (.getfield 15, 3) := by decide +kernel
theorem dX6_changeSpsr_4 : decode cX6_changeSpsr 4 = .ok (.iload_n 1, 1) := by decide +kernel
theorem dX6_changeSpsr_5 : decode cX6_changeSpsr 5 = .ok (.iload_n 2, 1) := by decide +kernel
theorem dX6_changeSpsr_6 : decode cX6_changeSpsr 6 = .ok (.ldc 55, 2) := by decide +kernel
theorem dX6_changeSpsr_8 : decode cX6_changeSpsr 8 = .ok (.iand, 1) := by decide +kernel
theorem dX6_changeSpsr_9 : decode cX6_changeSpsr 9 = .ok (.iastore, 1) := by decide +kernel
theorem dX6_changeSpsr_10 : decode cX6_changeSpsr 10 = .ok (.return_, 1) := by decide +kernel
theorem dX6_mixIntoSpsr_0 : decode cX6_mixIntoSpsr 0 = .ok (.aload_n 0, 1) := by decide +kernel
theorem dX6_mixIntoSpsr_1 : decode cX6_mixIntoSpsr 1 = .ok (.getfield 22, 3) := by decide +kernel
theorem dX6_mixIntoSpsr_4 : decode cX6_mixIntoSpsr 4 = .ok (.ifCond .eq 28, 3) := by decide +kernel
theorem dX6_mixIntoSpsr_7 : decode cX6_mixIntoSpsr 7 = .ok (.aload_n 0, 1) := by decide +kernel
theorem dX6_mixIntoSpsr_8 : decode cX6_mixIntoSpsr 8 = .ok (.aload_n 0, 1) := by decide +kernel
theorem dX6_mixIntoSpsr_9 : decode cX6_mixIntoSpsr 9 = .ok (.getfield 22, 3) := by decide +kernel
theorem dX6_mixIntoSpsr_12 : decode cX6_mixIntoSpsr 12 = .ok (.aload_n 0, 1) := by decide +kernel
theorem dX6_mixIntoSpsr_13 : decode cX6_mixIntoSpsr 13 = .ok (.getfield 15, 3) := by decide +kernel
theorem dX6_mixIntoSpsr_16 : decode cX6_mixIntoSpsr 16 = .ok (.aload_n 0, 1) := by decide +kernel
theorem dX6_mixIntoSpsr_17 : decode cX6_mixIntoSpsr 17 = .ok (.getfield 22, 3) := by decide +kernel
theorem dX6_mixIntoSpsr_20 : decode cX6_mixIntoSpsr 20 = .ok (.iaload, 1) := by decide +kernel
theorem dX6_mixIntoSpsr_21 : decode cX6_mixIntoSpsr 21 = .ok (.iload_n 2, 1) := by decide +kernel
theorem dX6_mixIntoSpsr_22 : decode cX6_mixIntoSpsr 22 = .ok (.iconst (-1), 1) := by decide +kernel
theorem dX6_mixIntoSpsr_23 : decode cX6_mixIntoSpsr 23 = .ok (.ixor, 1) := by decide +kernel
theorem dX6_mixIntoSpsr_24 : decode cX6_mixIntoSpsr 24 = .ok (.iand, 1) := by decide +kernel
theorem dX6_mixIntoSpsr_25 : decode cX6_mixIntoSpsr 25 = .ok (.iload_n 1, 1) := by decide +kernel
theorem dX6_mixIntoSpsr_26 : decode cX6_mixIntoSpsr 26 = .ok (.iload_n 2, 1) := by decide +kernel
theorem dX6_mixIntoSpsr_27 : decode cX6_mixIntoSpsr 27 = .ok (.iand, 1) := by decide +kernel
theorem dX6_mixIntoSpsr_28 : decode cX6_mixIntoSpsr 28 = .ok (.ior, 1) := by decide +kernel
theorem dX6_mixIntoSpsr_29 : decode cX6_mixIntoSpsr 29 = .ok (.invokevirtual 61, 3) := by decide +kernel
theorem dX6_mixIntoSpsr_32 : decode cX6_mixIntoSpsr 32 = .ok (.return_, 1) := by decide +kernel
theorem dX6_spsrOrCpsr_0 : decode cX6_spsrOrCpsr 0 = .ok (.aload_n 0, 1) := by decide +kernel
theorem dX6_spsrOrCpsr_1 : decode cX6_spsrOrCpsr 1 = .ok (.getfield 22, 3) := by decide +kernel
theorem dX6_spsrOrCpsr_4 : decode cX6_spsrOrCpsr 4 = .ok (.ifCond .ne 10, 3) := by decide +kernel
theorem dX6_spsrOrCpsr_7 : decode cX6_spsrOrCpsr 7 = .ok (.aload_n 0, 1) := by decide +kernel
theorem dX6_spsrOrCpsr_8 : decode cX6_spsrOrCpsr 8 = .ok (.getfield 18, 3) := by decide +kernel
theorem dX6_spsrOrCpsr_11 : decode cX6_spsrOrCpsr 11 = .ok (.goto 12, 3) := by decide +kernel
theorem dX6_spsrOrCpsr_14 : decode cX6_spsrOrCpsr 14 = .ok (.aload_n 0, 1) := by decide +kernel
theorem dX6_spsrOrCpsr_15 : decode cX6_spsrOrCpsr 15 = .ok (.getfield 15, 3) := by decide +kernel
theorem dX6_spsrOrCpsr_18 : decode cX6_spsrOrCpsr 18 = .ok (.aload_n 0, 1) := by decide +kernel
theorem dX6_spsrOrCpsr_19 : decode cX6_spsrOrCpsr 19 = .ok (.getfield 22, 3) := by decide +kernel
theorem dX6_spsrOrCpsr_22 : decode cX6_spsrOrCpsr 22 = .ok (.iaload, 1) := by decide +kernel
theorem dX6_spsrOrCpsr_23 : decode cX6_spsrOrCpsr 23 = .ok (.ireturn, 1) := by decide +kernel
theorem dX6_thumb_0 : decode cX6_thumb 0 = .ok (.aload_n 0, 1) := by decide +kernel
theorem dX6_thumb_1 : decode cX6_thumb 1 = .ok (.getfield 18, 3) := by decide +kernel
theorem dX6_thumb_4 : decode cX6_thumb 4 = .ok (.bipush 32, 2) := by decide +kernel
theorem dX6_thumb_6 : decode cX6_thumb 6 = .ok (.iand, 1) := by decide +kernel
theorem dX6_thumb_7 : decode cX6_thumb 7 = .ok (.ifCond .eq 7, 3) := by decide +kernel
theorem dX6_thumb_10 : decode cX6_thumb 10 = .ok (.iconst 1, 1) := by decide +kernel
theorem dX6_thumb_11 : decode cX6_thumb 11 = .ok (.goto 4, 3) := by decide +kernel
theorem dX6_thumb_14 : decode cX6_thumb 14 = .ok (.iconst 0, 1) := by decide +kernel
theorem dX6_thumb_15 : decode cX6_thumb 15 = .ok (.ireturn, 1) := by decide +kernel
theorem dX6_irqAllowed_0 : decode cX6_irqAllowed 0 = .ok (.aload_n 0, 1) := by decide +kernel
theorem dX6_irqAllowed_1 : decode cX6_irqAllowed 1 = .ok (.getfield 18, 3) := by decide +kernel
theorem dX6_irqAllowed_4 : decode cX6_irqAllowed 4 = .ok (.sipush 128, 3) := by decide +kernel
theorem dX6_irqAllowed_7 : decode cX6_irqAllowed 7 = .ok (.iand, 1) := by decide +kernel
theorem dX6_irqAllowed_8 : decode cX6_irqAllowed 8 = .ok (.ifCond .ne 7, 3) := by decide +kernel
theorem dX6_irqAllowed_11 : decode cX6_irqAllowed 11 = .ok (.iconst 1, 1) := by decide +kernel
theorem dX6_irqAllowed_12 : decode cX6_irqAllowed 12 = .ok (.goto 4, 3) := by decide +kernel
theorem dX6_irqAllowed_15 : decode cX6_irqAllowed 15 = .ok (.iconst 0, 1) := by decide +kernel
theorem dX6_irqAllowed_16 : decode cX6_irqAllowed 16 = .ok (.ireturn, 1) := by decide +kernel
theorem dX6_fiqAllowed_0 : decode cX6_fiqAllowed 0 = .ok (.aload_n 0, 1) := by decide +kernel
theorem dX6_fiqAllowed_1 : decode cX6_fiqAllowed 1 = .ok (.getfield 18, 3) := by decide +kernel
theorem dX6_fiqAllowed_4 : decode cX6_fiqAllowed 4 = .ok (.bipush 64, 2) := by decide +kernel
theorem dX6_fiqAllowed_6 : decode cX6_fiqAllowed 6 = .ok (.iand, 1) := by decide +kernel
theorem dX6_fiqAllowed_7 : decode cX6_fiqAllowed 7 = .ok (.ifCond .ne 7, 3) := by decide +kernel
theorem dX6_fiqAllowed_10 : decode cX6_fiqAllowed 10 = .ok (.iconst 1, 1) := by decide +kernel
theorem dX6_fiqAllowed_11 : decode cX6_fiqAllowed 11 = .ok (.goto 4, 3) := by decide +kernel
theorem dX6_fiqAllowed_14 : decode cX6_fiqAllowed 14 = .ok (.iconst 0, 1) := by decide +kernel
theorem dX6_fiqAllowed_15 : decode cX6_fiqAllowed 15 = .ok (.ireturn, 1) := by decide +kernel
theorem dX6_carry_0 : decode cX6_carry 0 = .ok (.aload_n 0, 1) := by decide +kernel
theorem dX6_carry_1 : decode cX6_carry 1 = .ok (.getfield 18, 3) := by decide +kernel
theorem dX6_carry_4 : decode cX6_carry 4 = .ok (.bipush 29, 2) := by decide +kernel
theorem dX6_carry_6 : decode cX6_carry 6 = .ok (.iushr, 1) := by decide +kernel
theorem dX6_carry_7 : decode cX6_carry 7 = .ok (.iconst 1, 1) := by decide +kernel
theorem dX6_carry_8 : decode cX6_carry 8 = .ok (.iand, 1) := by decide +kernel
theorem dX6_carry_9 : decode cX6_carry 9 = .ok (.ireturn, 1) := by decide +kernel
theorem dX6_overflow_0 : decode cX6_overflow 0 = .ok (.aload_n 0, 1) := by decide +kernel
theorem dX6_overflow_1 : decode cX6_overflow 1 = .ok (.getfield 18, 3) := by decide +kernel
theorem dX6_overflow_4 : decode cX6_overflow 4 = .ok (.bipush 28, 2) := by decide +kernel
theorem dX6_overflow_6 : decode cX6_overflow 6 = .ok (.iushr, 1) := by decide +kernel
theorem dX6_overflow_7 : decode cX6_overflow 7 = .ok (.iconst 1, 1) := by decide +kernel
theorem dX6_overflow_8 : decode cX6_overflow 8 = .ok (.iand, 1) := by decide +kernel
theorem dX6_overflow_9 : decode cX6_overflow 9 = .ok (.ireturn, 1) := by decide +kernel
theorem dX6_changeFlags_0 : decode cX6_changeFlags 0 = .ok (.aload_n 0, 1) := by decide +kernel
theorem dX6_changeFlags_1 : decode cX6_changeFlags 1 = .ok (.iload_n 1, 1) := by decide +kernel
theorem dX6_changeFlags_2 : decode cX6_changeFlags 2 = .ok (.ldc 56, 2) := by decide +kernel
theorem dX6_changeFlags_4 : decode cX6_changeFlags 4 = .ok (.iand, 1) := by decide +kernel
theorem dX6_changeFlags_5 : decode cX6_changeFlags 5 = .ok (.aload_n 0, 1) := by decide +kernel
theorem dX6_changeFlags_6 : decode cX6_changeFlags 6 = .ok (.getfield 18, 3) := by decide +kernel
theorem dX6_changeFlags_9 : decode cX6_changeFlags 9 = .ok (.ldc 65, 2) := by decide +kernel
theorem dX6_changeFlags_11 : decode cX6_changeFlags 11 = .ok (.iand, 1) := by decide +kernel
theorem dX6_changeFlags_12 : decode cX6_changeFlags 12 = .ok (.ior, 1) := by decide +kernel
theorem dX6_changeFlags_13 : decode cX6_changeFlags 13 = .ok (.putfield 18, 3) := by decide +kernel
theorem dX6_changeFlags_16 : decode cX6_changeFlags 16 = .ok (.return_, 1) := by decide +kernel
theorem dX6_fits_0 : decode cX6_fits 0 = .ok (.aload_n 0, 1) := by decide +kernel
theorem dX6_fits_1 : decode cX6_fits 1 = .ok (.getfield 18, 3) := by decide +kernel
theorem dX6_fits_4 : decode cX6_fits 4 = .ok (.ifCond .ge 7, 3) := by decide +kernel
theorem dX6_fits_7 : decode cX6_fits 7 = .ok (.iconst 1, 1) := by decide +kernel
theorem dX6_fits_8 : decode cX6_fits 8 = .ok (.goto 4, 3) := by decide +kernel
theorem dX6_fits_11 : decode cX6_fits 11 = .ok (.iconst 0, 1) := by decide +kernel
theorem dX6_fits_12 : decode cX6_fits 12 = .ok (.istore_n 2, 1) := by decide +kernel
theorem dX6_fits_13 : decode cX6_fits 13 = .ok (.aload_n 0, 1) := by decide +kernel
theorem dX6_fits_14 : decode cX6_fits 14 = .ok (.getfield 18, 3) := by decide +kernel
theorem dX6_fits_17 : decode cX6_fits 17 = .ok (.bipush 30, 2) := by decide +kernel
theorem dX6_fits_19 : decode cX6_fits 19 = .ok (.invokestatic 66, 3) := by decide +kernel
theorem dX6_fits_22 : decode cX6_fits 22 = .ok (.istore_n 3, 1) := by decide +kernel
theorem dX6_fits_23 : decode cX6_fits 23 = .ok (.aload_n 0, 1) := by decide +kernel
theorem dX6_fits_24 : decode cX6_fits 24 = .ok (.getfield 18, 3) := by decide +kernel
theorem dX6_fits_27 : decode cX6_fits 27 = .ok (.bipush 29, 2) := by decide +kernel
theorem dX6_fits_29 : decode cX6_fits 29 = .ok (.invokestatic 66, 3) := by decide +kernel
theorem dX6_fits_32 : decode cX6_fits 32 = .ok (.istore 4, 2) := by decide +kernel
theorem dX6_fits_34 : decode cX6_fits 34 = .ok (.aload_n 0, 1) := by decide +kernel
theorem dX6_fits_35 : decode cX6_fits 35 = .ok (.getfield 18, 3) := by decide +kernel
theorem dX6_fits_38 : decode cX6_fits 38 = .ok (.bipush 28, 2) := by decide +kernel
theorem dX6_fits_40 : decode cX6_fits 40 = .ok (.invokestatic 66, 3) := by decide +kernel
theorem dX6_fits_43 : decode cX6_fits 43 = .ok (.istore 5, 2) := by decide +kernel
theorem dX6_fits_45 : decode cX6_fits 45 = .ok (.iload_n 1, 1) := by decide +kernel
theorem dX6_fits_46 : decode cX6_fits 46 = .ok (.iconst 1, 1) := by decide +kernel
theorem dX6_fits_47 : decode cX6_fits 47 = .ok (.iushr, 1) := by decide +kernel
theorem dX6_fits_48 : decode cX6_fits 48 = .ok (.tableswitch 125 0 6 #[44, 50, 57, 63, 70, 89, 105], 44) := by decide +kernel
theorem dX6_fits_92 : decode cX6_fits 92 = .ok (.iload_n 3, 1) := by decide +kernel
theorem dX6_fits_93 : decode cX6_fits 93 = .ok (.istore 6, 2) := by decide +kernel
theorem dX6_fits_95 : decode cX6_fits 95 = .ok (.goto 81, 3) := by decide +kernel
theorem dX6_fits_98 : decode cX6_fits 98 = .ok (.iload 4, 2) := by decide +kernel
theorem dX6_fits_100 : decode cX6_fits 100 = .ok (.istore 6, 2) := by decide +kernel
theorem dX6_fits_102 : decode cX6_fits 102 = .ok (.goto 74, 3) := by decide +kernel
theorem dX6_fits_105 : decode cX6_fits 105 = .ok (.iload_n 2, 1) := by decide +kernel
theorem dX6_fits_106 : decode cX6_fits 106 = .ok (.istore 6, 2) := by decide +kernel
theorem dX6_fits_108 : decode cX6_fits 108 = .ok (.goto 68, 3) := by decide +kernel
theorem dX6_fits_111 : decode cX6_fits 111 = .ok (.iload 5, 2) := by decide +kernel
theorem dX6_fits_113 : decode cX6_fits 113 = .ok (.istore 6, 2) := by decide +kernel
theorem dX6_fits_115 : decode cX6_fits 115 = .ok (.goto 61, 3) := by decide +kernel
theorem dX6_fits_118 : decode cX6_fits 118 = .ok (.iload 4, 2) := by decide +kernel
theorem dX6_fits_120 : decode cX6_fits 120 = .ok (.ifCond .eq 11, 3) := by decide +kernel
theorem dX6_fits_123 : decode cX6_fits 123 = .ok (.iload_n 3, 1) := by decide +kernel
theorem dX6_fits_124 : decode cX6_fits 124 = .ok (.ifCond .ne 7, 3) := by decide +kernel
theorem dX6_fits_127 : decode cX6_fits 127 = .ok (.iconst 1, 1) := by decide +kernel
theorem dX6_fits_128 : decode cX6_fits 128 = .ok (.goto 4, 3) := by decide +kernel
theorem dX6_fits_131 : decode cX6_fits 131 = .ok (.iconst 0, 1) := by decide +kernel
theorem dX6_fits_132 : decode cX6_fits 132 = .ok (.istore 6, 2) := by decide +kernel
theorem dX6_fits_134 : decode cX6_fits 134 = .ok (.goto 42, 3) := by decide +kernel
theorem dX6_fits_137 : decode cX6_fits 137 = .ok (.iload_n 2, 1) := by decide +kernel
theorem dX6_fits_138 : decode cX6_fits 138 = .ok (.iload 5, 2) := by decide +kernel
theorem dX6_fits_140 : decode cX6_fits 140 = .ok (.if_icmp .ne 7, 3) := by decide +kernel
theorem dX6_fits_143 : decode cX6_fits 143 = .ok (.iconst 1, 1) := by decide +kernel
theorem dX6_fits_144 : decode cX6_fits 144 = .ok (.goto 4, 3) := by decide +kernel
theorem dX6_fits_147 : decode cX6_fits 147 = .ok (.iconst 0, 1) := by decide +kernel
theorem dX6_fits_148 : decode cX6_fits 148 = .ok (.istore 6, 2) := by decide +kernel
theorem dX6_fits_150 : decode cX6_fits 150 = .ok (.goto 26, 3) := by decide +kernel
theorem dX6_fits_153 : decode cX6_fits 153 = .ok (.iload_n 2, 1) := by decide +kernel
theorem dX6_fits_154 : decode cX6_fits 154 = .ok (.iload 5, 2) := by decide +kernel
theorem dX6_fits_156 : decode cX6_fits 156 = .ok (.if_icmp .ne 11, 3) := by decide +kernel
theorem dX6_fits_159 : decode cX6_fits 159 = .ok (.iload_n 3, 1) := by decide +kernel
theorem dX6_fits_160 : decode cX6_fits 160 = .ok (.ifCond .ne 7, 3) := by decide +kernel
theorem dX6_fits_163 : decode cX6_fits 163 = .ok (.iconst 1, 1) := by decide +kernel
theorem dX6_fits_164 : decode cX6_fits 164 = .ok (.goto 4, 3) := by decide +kernel
theorem dX6_fits_167 : decode cX6_fits 167 = .ok (.iconst 0, 1) := by decide +kernel
theorem dX6_fits_168 : decode cX6_fits 168 = .ok (.istore 6, 2) := by decide +kernel
theorem dX6_fits_170 : decode cX6_fits 170 = .ok (.goto 6, 3) := by decide +kernel
theorem dX6_fits_173 : decode cX6_fits 173 = .ok (.iconst 1, 1) := by decide +kernel
theorem dX6_fits_174 : decode cX6_fits 174 = .ok (.istore 6, 2) := by decide +kernel
theorem dX6_fits_176 : decode cX6_fits 176 = .ok (.iload 6, 2) := by decide +kernel
theorem dX6_fits_178 : decode cX6_fits 178 = .ok (.iload_n 1, 1) := by decide +kernel
theorem dX6_fits_179 : decode cX6_fits 179 = .ok (.iconst 0, 1) := by decide +kernel
theorem dX6_fits_180 : decode cX6_fits 180 = .ok (.invokestatic 66, 3) := by decide +kernel
theorem dX6_fits_183 : decode cX6_fits 183 = .ok (.if_icmp .eq 7, 3) := by decide +kernel
theorem dX6_fits_186 : decode cX6_fits 186 = .ok (.iconst 1, 1) := by decide +kernel
theorem dX6_fits_187 : decode cX6_fits 187 = .ok (.goto 4, 3) := by decide +kernel
theorem dX6_fits_190 : decode cX6_fits 190 = .ok (.iconst 0, 1) := by decide +kernel
theorem dX6_fits_191 : decode cX6_fits 191 = .ok (.ireturn, 1) := by decide +kernel
theorem dX6_enter_0 : decode cX6_enter 0 = .ok (.aload_n 0, 1) := by decide +kernel
theorem dX6_enter_1 : decode cX6_enter 1 = .ok (.getfield 18, 3) := by decide +kernel
theorem dX6_enter_4 : decode cX6_enter 4 = .ok (.istore_n 2, 1) := by decide +kernel
theorem dX6_enter_5 : decode cX6_enter 5 = .ok (.aload_n 0, 1) := by decide +kernel
theorem dX6_enter_6 : decode cX6_enter 6 = .ok (.iload_n 1, 1) := by decide +kernel
theorem dX6_enter_7 : decode cX6_enter 7 = .ok (.invokevirtual 72, 3) := by decide +kernel
theorem dX6_enter_10 : decode cX6_enter 10 = .ok (.istore_n 3, 1) := by decide +kernel
theorem dX6_enter_11 : decode cX6_enter 11 = .ok (.iload_n 1, 1) := by decide +kernel
theorem dX6_enter_12 : decode cX6_enter 12 = .ok (.iconst 5, 1) := by decide +kernel
theorem dX6_enter_13 : decode cX6_enter 13 = .ok (.if_icmp .ne 9, 3) := by decide +kernel
theorem dX6_enter_16 : decode cX6_enter 16 = .ok (.sipush 192, 3) := by decide +kernel
theorem dX6_enter_19 : decode cX6_enter 19 = .ok (.goto 6, 3) := by decide +kernel
theorem dX6_enter_22 : decode cX6_enter 22 = .ok (.sipush 128, 3) := by decide +kernel
theorem dX6_enter_25 : decode cX6_enter 25 = .ok (.istore 4, 2) := by decide +kernel
theorem dX6_enter_27 : decode cX6_enter 27 = .ok (.aload_n 0, 1) := by decide +kernel
theorem dX6_enter_28 : decode cX6_enter 28 = .ok (.iload_n 2, 1) := by decide +kernel
theorem dX6_enter_29 : decode cX6_enter 29 = .ok (.bipush (-33), 2) := by decide +kernel
theorem dX6_enter_31 : decode cX6_enter 31 = .ok (.iand, 1) := by decide +kernel
theorem dX6_enter_32 : decode cX6_enter 32 = .ok (.bipush (-32), 2) := by decide +kernel
theorem dX6_enter_34 : decode cX6_enter 34 = .ok (.iand, 1) := by decide +kernel
theorem dX6_enter_35 : decode cX6_enter 35 = .ok (.iload 4, 2) := by decide +kernel
theorem dX6_enter_37 : decode cX6_enter 37 = .ok (.ior, 1) := by decide +kernel
theorem dX6_enter_38 : decode cX6_enter 38 = .ok (.iload_n 1, 1) := by decide +kernel
theorem dX6_enter_39 : decode cX6_enter 39 = .ok (.invokestatic 77, 3) := by decide +kernel
theorem dX6_enter_42 : decode cX6_enter 42 = .ok (.ior, 1) := by decide +kernel
theorem dX6_enter_43 : decode cX6_enter 43 = .ok (.invokevirtual 58, 3) := by decide +kernel
theorem dX6_enter_46 : decode cX6_enter 46 = .ok (.aload_n 0, 1) := by decide +kernel
theorem dX6_enter_47 : decode cX6_enter 47 = .ok (.aload_n 0, 1) := by decide +kernel
theorem dX6_enter_48 : decode cX6_enter 48 = .ok (.getfield 22, 3) := by decide +kernel
theorem dX6_enter_51 : decode cX6_enter 51 = .ok (.iload_n 2, 1) := by decide +kernel
theorem dX6_enter_52 : decode cX6_enter 52 = .ok (.invokevirtual 61, 3) := by decide +kernel
theorem dX6_enter_55 : decode cX6_enter 55 = .ok (.aload_n 0, 1) := by decide +kernel
theorem dX6_enter_56 : decode cX6_enter 56 = .ok (.bipush 14, 2) := by decide +kernel
theorem dX6_enter_58 : decode cX6_enter 58 = .ok (.iload_n 3, 1) := by decide +kernel
theorem dX6_enter_59 : decode cX6_enter 59 = .ok (.invokevirtual 80, 3) := by decide +kernel
theorem dX6_enter_62 : decode cX6_enter 62 = .ok (.aload_n 0, 1) := by decide +kernel
theorem dX6_enter_63 : decode cX6_enter 63 = .ok (.iload_n 1, 1) := by decide +kernel
theorem dX6_enter_64 : decode cX6_enter 64 = .ok (.invokestatic 83, 3) := by decide +kernel
theorem dX6_enter_67 : decode cX6_enter 67 = .ok (.invokevirtual 39, 3) := by decide +kernel
theorem dX6_enter_70 : decode cX6_enter 70 = .ok (.return_, 1) := by decide +kernel
theorem dX6_linkOf_0 : decode cX6_linkOf 0 = .ok (.iload_n 1, 1) := by decide +kernel
theorem dX6_linkOf_1 : decode cX6_linkOf 1 = .ok (.ifCond .eq 8, 3) := by decide +kernel
theorem dX6_linkOf_4 : decode cX6_linkOf 4 = .ok (.iload_n 1, 1) := by decide +kernel
theorem dX6_linkOf_5 : decode cX6_linkOf 5 = .ok (.iconst 1, 1) := by decide +kernel
theorem dX6_linkOf_6 : decode cX6_linkOf 6 = .ok (.if_icmp .ne 8, 3) := by decide +kernel
theorem dX6_linkOf_9 : decode cX6_linkOf 9 = .ok (.aload_n 0, 1) := by decide +kernel
theorem dX6_linkOf_10 : decode cX6_linkOf 10 = .ok (.invokevirtual 47, 3) := by decide +kernel
theorem dX6_linkOf_13 : decode cX6_linkOf 13 = .ok (.ireturn, 1) := by decide +kernel
theorem dX6_linkOf_14 : decode cX6_linkOf 14 = .ok (.iload_n 1, 1) := by decide +kernel
theorem dX6_linkOf_15 : decode cX6_linkOf 15 = .ok (.iconst 3, 1) := by decide +kernel
theorem dX6_linkOf_16 : decode cX6_linkOf 16 = .ok (.if_icmp .ne 13, 3) := by decide +kernel
theorem dX6_linkOf_19 : decode cX6_linkOf 19 = .ok (.aload_n 0, 1) := by decide +kernel
theorem dX6_linkOf_20 : decode cX6_linkOf 20 = .ok (.getfield 25, 3) := by decide +kernel
theorem dX6_linkOf_23 : decode cX6_linkOf 23 = .ok (.bipush 8, 2) := by decide +kernel
theorem dX6_linkOf_25 : decode cX6_linkOf 25 = .ok (.iadd, 1) := by decide +kernel
theorem dX6_linkOf_26 : decode cX6_linkOf 26 = .ok (.goto 9, 3) := by decide +kernel
theorem dX6_linkOf_29 : decode cX6_linkOf 29 = .ok (.aload_n 0, 1) := by decide +kernel
theorem dX6_linkOf_30 : decode cX6_linkOf 30 = .ok (.getfield 25, 3) := by decide +kernel
theorem dX6_linkOf_33 : decode cX6_linkOf 33 = .ok (.iconst 4, 1) := by decide +kernel
theorem dX6_linkOf_34 : decode cX6_linkOf 34 = .ok (.iadd, 1) := by decide +kernel
theorem dX6_linkOf_35 : decode cX6_linkOf 35 = .ok (.ireturn, 1) := by decide +kernel
theorem dX7_init_0 : decode cX7_init 0 = .ok (.aload_n 0, 1) := by decide +kernel
theorem dX7_init_1 : decode cX7_init 1 = .ok (.invokespecial 1, 3) := by decide +kernel
theorem dX7_init_4 : decode cX7_init 4 = .ok (.aload_n 0, 1) := by decide +kernel
theorem dX7_init_5 : decode cX7_init 5 = .ok (.iconst 0, 1) := by decide +kernel
theorem dX7_init_6 : decode cX7_init 6 = .ok (.putfield 7, 3) := by decide +kernel
theorem dX7_init_9 : decode cX7_init 9 = .ok (.return_, 1) := by decide +kernel
theorem dX7_turnRight_0 : decode cX7_turnRight 0 = .ok (.iload_n 0, 1) := by decide +kernel
theorem dX7_turnRight_1 : decode cX7_turnRight 1 = .ok (.iload_n 1, 1) := by decide +kernel
theorem dX7_turnRight_2 : decode cX7_turnRight 2 = .ok (.bipush 31, 2) := by decide +kernel
theorem dX7_turnRight_4 : decode cX7_turnRight 4 = .ok (.iand, 1) := by decide +kernel
theorem dX7_turnRight_5 : decode cX7_turnRight 5 = .ok (.iushr, 1) := by decide +kernel
theorem dX7_turnRight_6 : decode cX7_turnRight 6 = .ok (.iload_n 0, 1) := by decide +kernel
theorem dX7_turnRight_7 : decode cX7_turnRight 7 = .ok (.iload_n 1, 1) := by decide +kernel
theorem dX7_turnRight_8 : decode cX7_turnRight 8 = .ok (.ineg, 1) := by decide +kernel
theorem dX7_turnRight_9 : decode cX7_turnRight 9 = .ok (.bipush 31, 2) := by decide +kernel
theorem dX7_turnRight_11 : decode cX7_turnRight 11 = .ok (.iand, 1) := by decide +kernel
theorem dX7_turnRight_12 : decode cX7_turnRight 12 = .ok (.ishl, 1) := by decide +kernel
theorem dX7_turnRight_13 : decode cX7_turnRight 13 = .ok (.ior, 1) := by decide +kernel
theorem dX7_turnRight_14 : decode cX7_turnRight 14 = .ok (.ireturn, 1) := by decide +kernel
theorem dX7_carry_0 : decode cX7_carry 0 = .ok (.aload_n 0, 1) := by decide +kernel
theorem dX7_carry_1 : decode cX7_carry 1 = .ok (.getfield 7, 3) := by decide +kernel
theorem dX7_carry_4 : decode cX7_carry 4 = .ok (.ireturn, 1) := by decide +kernel
theorem dX7_shift_0 : decode cX7_shift 0 = .ok (.iload_n 3, 1) := by decide +kernel
theorem dX7_shift_1 : decode cX7_shift 1 = .ok (.ifCond .ne 11, 3) := by decide +kernel
theorem dX7_shift_4 : decode cX7_shift 4 = .ok (.aload_n 0, 1) := by decide +kernel
theorem dX7_shift_5 : decode cX7_shift 5 = .ok (.iload 4, 2) := by decide +kernel
theorem dX7_shift_7 : decode cX7_shift 7 = .ok (.putfield 7, 3) := by decide +kernel
theorem dX7_shift_10 : decode cX7_shift 10 = .ok (.iload_n 2, 1) := by decide +kernel
theorem dX7_shift_11 : decode cX7_shift 11 = .ok (.ireturn, 1) := by decide +kernel
theorem dX7_shift_12 : decode cX7_shift 12 = .ok (.iload_n 1, 1) := by decide +kernel
theorem dX7_shift_13 : decode cX7_shift 13 = .ok (.iconst 3, 1) := by decide +kernel
theorem dX7_shift_14 : decode cX7_shift 14 = .ok (.if_icmp .ne 22, 3) := by decide +kernel
theorem dX7_shift_17 : decode cX7_shift 17 = .ok (.iload_n 2, 1) := by decide +kernel
theorem dX7_shift_18 : decode cX7_shift 18 = .ok (.iload_n 3, 1) := by decide +kernel
theorem dX7_shift_19 : decode cX7_shift 19 = .ok (.invokestatic 13, 3) := by decide +kernel
theorem dX7_shift_22 : decode cX7_shift 22 = .ok (.istore 5, 2) := by decide +kernel
theorem dX7_shift_24 : decode cX7_shift 24 = .ok (.aload_n 0, 1) := by decide +kernel
theorem dX7_shift_25 : decode cX7_shift 25 = .ok (.iload 5, 2) := by decide +kernel
theorem dX7_shift_27 : decode cX7_shift 27 = .ok (.bipush 31, 2) := by decide +kernel
theorem dX7_shift_29 : decode cX7_shift 29 = .ok (.iushr, 1) := by decide +kernel
theorem dX7_shift_30 : decode cX7_shift 30 = .ok (.putfield 7, 3) := by decide +kernel
theorem dX7_shift_33 : decode cX7_shift 33 = .ok (.iload 5, 2) := by decide +kernel
theorem dX7_shift_35 : decode cX7_shift 35 = .ok (.ireturn, 1) := by decide +kernel
theorem dX7_shift_36 : decode cX7_shift 36 = .ok (.iload_n 3, 1) := by decide +kernel
theorem dX7_shift_37 : decode cX7_shift 37 = .ok (.bipush 32, 2) := by decide +kernel
theorem dX7_shift_39 : decode cX7_shift 39 = .ok (.if_icmp .ge 52, 3) := by decide +kernel
theorem dX7_shift_42 : decode cX7_shift 42 = .ok (.aload_n 0, 1) := by decide +kernel
theorem dX7_shift_43 : decode cX7_shift 43 = .ok (.iload_n 1, 1) := by decide +kernel
theorem dX7_shift_44 : decode cX7_shift 44 = .ok (.ifCond .ne 12, 3) := by decide +kernel
theorem dX7_shift_47 : decode cX7_shift 47 = .ok (.iload_n 2, 1) := by decide +kernel
theorem dX7_shift_48 : decode cX7_shift 48 = .ok (.bipush 32, 2) := by decide +kernel
theorem dX7_shift_50 : decode cX7_shift 50 = .ok (.iload_n 3, 1) := by decide +kernel
theorem dX7_shift_51 : decode cX7_shift 51 = .ok (.isub, 1) := by decide +kernel
theorem dX7_shift_52 : decode cX7_shift 52 = .ok (.iushr, 1) := by decide +kernel
theorem dX7_shift_53 : decode cX7_shift 53 = .ok (.goto 8, 3) := by decide +kernel
theorem dX7_shift_56 : decode cX7_shift 56 = .ok (.iload_n 2, 1) := by decide +kernel
theorem dX7_shift_57 : decode cX7_shift 57 = .ok (.iload_n 3, 1) := by decide +kernel
theorem dX7_shift_58 : decode cX7_shift 58 = .ok (.iconst 1, 1) := by decide +kernel
theorem dX7_shift_59 : decode cX7_shift 59 = .ok (.isub, 1) := by decide +kernel
theorem dX7_shift_60 : decode cX7_shift 60 = .ok (.ishr, 1) := by decide +kernel
theorem dX7_shift_61 : decode cX7_shift 61 = .ok (.iconst 1, 1) := by decide +kernel
theorem dX7_shift_62 : decode cX7_shift 62 = .ok (.iand, 1) := by decide +kernel
theorem dX7_shift_63 : decode cX7_shift 63 = .ok (.putfield 7, 3) := by decide +kernel
theorem dX7_shift_66 : decode cX7_shift 66 = .ok (.iload_n 1, 1) := by decide +kernel
theorem dX7_shift_67 : decode cX7_shift 67 = .ok (.ifCond .ne 9, 3) := by decide +kernel
theorem dX7_shift_70 : decode cX7_shift 70 = .ok (.iload_n 2, 1) := by decide +kernel
theorem dX7_shift_71 : decode cX7_shift 71 = .ok (.iload_n 3, 1) := by decide +kernel
theorem dX7_shift_72 : decode cX7_shift 72 = .ok (.ishl, 1) := by decide +kernel
theorem dX7_shift_73 : decode cX7_shift 73 = .ok (.goto 17, 3) := by decide +kernel
theorem dX7_shift_76 : decode cX7_shift 76 = .ok (.iload_n 1, 1) := by decide +kernel
theorem dX7_shift_77 : decode cX7_shift 77 = .ok (.iconst 1, 1) := by decide +kernel
theorem dX7_shift_78 : decode cX7_shift 78 = .ok (.if_icmp .ne 9, 3) := by decide +kernel
theorem dX7_shift_81 : decode cX7_shift 81 = .ok (.iload_n 2, 1) := by decide +kernel
theorem dX7_shift_82 : decode cX7_shift 82 = .ok (.iload_n 3, 1) := by decide +kernel
theorem dX7_shift_83 : decode cX7_shift 83 = .ok (.iushr, 1) := by decide +kernel
theorem dX7_shift_84 : decode cX7_shift 84 = .ok (.goto 6, 3) := by decide +kernel
theorem dX7_shift_87 : decode cX7_shift 87 = .ok (.iload_n 2, 1) := by decide +kernel
theorem dX7_shift_88 : decode cX7_shift 88 = .ok (.iload_n 3, 1) := by decide +kernel
theorem dX7_shift_89 : decode cX7_shift 89 = .ok (.ishr, 1) := by decide +kernel
theorem dX7_shift_90 : decode cX7_shift 90 = .ok (.ireturn, 1) := by decide +kernel
theorem dX7_shift_91 : decode cX7_shift 91 = .ok (.iload_n 1, 1) := by decide +kernel
theorem dX7_shift_92 : decode cX7_shift 92 = .ok (.iconst 2, 1) := by decide +kernel
theorem dX7_shift_93 : decode cX7_shift 93 = .ok (.if_icmp .ne 16, 3) := by decide +kernel
theorem dX7_shift_96 : decode cX7_shift 96 = .ok (.aload_n 0, 1) := by decide +kernel
theorem dX7_shift_97 : decode cX7_shift 97 = .ok (.iload_n 2, 1) := by decide +kernel
theorem dX7_shift_98 : decode cX7_shift 98 = .ok (.bipush 31, 2) := by decide +kernel
theorem dX7_shift_100 : decode cX7_shift 100 = .ok (.iushr, 1) := by decide +kernel
theorem dX7_shift_101 : decode cX7_shift 101 = .ok (.putfield 7, 3) := by decide +kernel
theorem dX7_shift_104 : decode cX7_shift 104 = .ok (.iload_n 2, 1) := by decide +kernel
theorem dX7_shift_105 : decode cX7_shift 105 = .ok (.bipush 31, 2) := by decide +kernel
theorem dX7_shift_107 : decode cX7_shift 107 = .ok (.ishr, 1) := by decide +kernel
theorem dX7_shift_108 : decode cX7_shift 108 = .ok (.ireturn, 1) := by decide +kernel
theorem dX7_shift_109 : decode cX7_shift 109 = .ok (.iload_n 1, 1) := by decide +kernel
theorem dX7_shift_110 : decode cX7_shift 110 = .ok (.ifCond .ne 9, 3) := by decide +kernel
theorem dX7_shift_113 : decode cX7_shift 113 = .ok (.iload_n 2, 1) := by decide +kernel
theorem dX7_shift_114 : decode cX7_shift 114 = .ok (.iconst 1, 1) := by decide +kernel
theorem dX7_shift_115 : decode cX7_shift 115 = .ok (.iand, 1) := by decide +kernel
theorem dX7_shift_116 : decode cX7_shift 116 = .ok (.goto 7, 3) := by decide +kernel
theorem dX7_shift_119 : decode cX7_shift 119 = .ok (.iload_n 2, 1) := by decide +kernel
theorem dX7_shift_120 : decode cX7_shift 120 = .ok (.bipush 31, 2) := by decide +kernel
theorem dX7_shift_122 : decode cX7_shift 122 = .ok (.iushr, 1) := by decide +kernel
theorem dX7_shift_123 : decode cX7_shift 123 = .ok (.istore 5, 2) := by decide +kernel
theorem dX7_shift_125 : decode cX7_shift 125 = .ok (.aload_n 0, 1) := by decide +kernel
theorem dX7_shift_126 : decode cX7_shift 126 = .ok (.iload_n 3, 1) := by decide +kernel
theorem dX7_shift_127 : decode cX7_shift 127 = .ok (.bipush 32, 2) := by decide +kernel
theorem dX7_shift_129 : decode cX7_shift 129 = .ok (.if_icmp .ne 8, 3) := by decide +kernel
theorem dX7_shift_132 : decode cX7_shift 132 = .ok (.iload 5, 2) := by decide +kernel
theorem dX7_shift_134 : decode cX7_shift 134 = .ok (.goto 4, 3) := by decide +kernel
theorem dX7_shift_137 : decode cX7_shift 137 = .ok (.iconst 0, 1) := by decide +kernel
theorem dX7_shift_138 : decode cX7_shift 138 = .ok (.putfield 7, 3) := by decide +kernel
theorem dX7_shift_141 : decode cX7_shift 141 = .ok (.iconst 0, 1) := by decide +kernel
theorem dX7_shift_142 : decode cX7_shift 142 = .ok (.ireturn, 1) := by decide +kernel
theorem dX7_shiftByNumber_0 : decode cX7_shiftByNumber 0 = .ok (.iload_n 3, 1) := by decide +kernel
theorem dX7_shiftByNumber_1 : decode cX7_shiftByNumber 1 = .ok (.ifCond .ne 7, 3) := by decide +kernel
theorem dX7_shiftByNumber_4 : decode cX7_shiftByNumber 4 = .ok (.iload_n 1, 1) := by decide +kernel
theorem dX7_shiftByNumber_5 : decode cX7_shiftByNumber 5 = .ok (.ifCond .ne 13, 3) := by decide +kernel
theorem dX7_shiftByNumber_8 : decode cX7_shiftByNumber 8 = .ok (.aload_n 0, 1) := by decide +kernel
theorem dX7_shiftByNumber_9 : decode cX7_shiftByNumber 9 = .ok (.iload_n 1, 1) := by decide +kernel
theorem dX7_shiftByNumber_10 : decode cX7_shiftByNumber 10 = .ok (.iload_n 2, 1) := by decide +kernel
theorem dX7_shiftByNumber_11 : decode cX7_shiftByNumber 11 = .ok (.iload_n 3, 1) := by decide +kernel
theorem dX7_shiftByNumber_12 : decode cX7_shiftByNumber 12 = .ok (.iload 4, 2) := by decide +kernel
theorem dX7_shiftByNumber_14 : decode cX7_shiftByNumber 14 = .ok (.invokevirtual 17, 3) := by decide +kernel
theorem dX7_shiftByNumber_17 : decode cX7_shiftByNumber 17 = .ok (.ireturn, 1) := by decide +kernel
theorem dX7_shiftByNumber_18 : decode cX7_shiftByNumber 18 = .ok (.iload_n 1, 1) := by decide +kernel
theorem dX7_shiftByNumber_19 : decode cX7_shiftByNumber 19 = .ok (.iconst 3, 1) := by decide +kernel
theorem dX7_shiftByNumber_20 : decode cX7_shiftByNumber 20 = .ok (.if_icmp .ne 20, 3) := by decide +kernel
theorem dX7_shiftByNumber_23 : decode cX7_shiftByNumber 23 = .ok (.aload_n 0, 1) := by decide +kernel
theorem dX7_shiftByNumber_24 : decode cX7_shiftByNumber 24 = .ok (.iload_n 2, 1) := by decide +kernel
theorem dX7_shiftByNumber_25 : decode cX7_shiftByNumber 25 = .ok (.iconst 1, 1) := by decide +kernel
theorem dX7_shiftByNumber_26 : decode cX7_shiftByNumber 26 = .ok (.iand, 1) := by decide +kernel
theorem dX7_shiftByNumber_27 : decode cX7_shiftByNumber 27 = .ok (.putfield 7, 3) := by decide +kernel
theorem dX7_shiftByNumber_30 : decode cX7_shiftByNumber 30 = .ok (.iload_n 2, 1) := by decide +kernel
theorem dX7_shiftByNumber_31 : decode cX7_shiftByNumber 31 = .ok (.iconst 1, 1) := by decide +kernel
theorem dX7_shiftByNumber_32 : decode cX7_shiftByNumber 32 = .ok (.iushr, 1) := by decide +kernel
theorem dX7_shiftByNumber_33 : decode cX7_shiftByNumber 33 = .ok (.iload 4, 2) := by decide +kernel
theorem dX7_shiftByNumber_35 : decode cX7_shiftByNumber 35 = .ok (.bipush 31, 2) := by decide +kernel
theorem dX7_shiftByNumber_37 : decode cX7_shiftByNumber 37 = .ok (.ishl, 1) := by decide +kernel
theorem dX7_shiftByNumber_38 : decode cX7_shiftByNumber 38 = .ok (.ior, 1) := by decide +kernel
theorem dX7_shiftByNumber_39 : decode cX7_shiftByNumber 39 = .ok (.ireturn, 1) := by decide +kernel
theorem dX7_shiftByNumber_40 : decode cX7_shiftByNumber 40 = .ok (.aload_n 0, 1) := by decide +kernel
theorem dX7_shiftByNumber_41 : decode cX7_shiftByNumber 41 = .ok (.iload_n 1, 1) := by decide +kernel
theorem dX7_shiftByNumber_42 : decode cX7_shiftByNumber 42 = .ok (.iload_n 2, 1) := by decide +kernel
theorem dX7_shiftByNumber_43 : decode cX7_shiftByNumber 43 = .ok (.bipush 32, 2) := by decide +kernel
theorem dX7_shiftByNumber_45 : decode cX7_shiftByNumber 45 = .ok (.iload 4, 2) := by decide +kernel
theorem dX7_shiftByNumber_47 : decode cX7_shiftByNumber 47 = .ok (.invokevirtual 17, 3) := by decide +kernel
theorem dX7_shiftByNumber_50 : decode cX7_shiftByNumber 50 = .ok (.ireturn, 1) := by decide +kernel
theorem dX7_turnedNumber_0 : decode cX7_turnedNumber 0 = .ok (.aload_n 0, 1) := by decide +kernel
theorem dX7_turnedNumber_1 : decode cX7_turnedNumber 1 = .ok (.iconst 3, 1) := by decide +kernel
theorem dX7_turnedNumber_2 : decode cX7_turnedNumber 2 = .ok (.iload_n 1, 1) := by decide +kernel
theorem dX7_turnedNumber_3 : decode cX7_turnedNumber 3 = .ok (.sipush 255, 3) := by decide +kernel
theorem dX7_turnedNumber_6 : decode cX7_turnedNumber 6 = .ok (.iand, 1) := by decide +kernel
theorem dX7_turnedNumber_7 : decode cX7_turnedNumber 7 = .ok (.iconst 2, 1) := by decide +kernel
theorem dX7_turnedNumber_8 : decode cX7_turnedNumber 8 = .ok (.iload_n 1, 1) := by decide +kernel
theorem dX7_turnedNumber_9 : decode cX7_turnedNumber 9 = .ok (.bipush 8, 2) := by decide +kernel
theorem dX7_turnedNumber_11 : decode cX7_turnedNumber 11 = .ok (.invokestatic 21, 3) := by decide +kernel
theorem dX7_turnedNumber_14 : decode cX7_turnedNumber 14 = .ok (.imul, 1) := by decide +kernel
theorem dX7_turnedNumber_15 : decode cX7_turnedNumber 15 = .ok (.iload_n 2, 1) := by decide +kernel
theorem dX7_turnedNumber_16 : decode cX7_turnedNumber 16 = .ok (.invokevirtual 17, 3) := by decide +kernel
theorem dX7_turnedNumber_19 : decode cX7_turnedNumber 19 = .ok (.ireturn, 1) := by decide +kernel
theorem dX8_init_0 : decode cX8_init 0 = .ok (.aload_n 0, 1) := by decide +kernel
theorem dX8_init_1 : decode cX8_init 1 = .ok (.invokespecial 3, 3) := by decide +kernel
theorem dX8_init_4 : decode cX8_init 4 = .ok (.aload_n 0, 1) := by decide +kernel
theorem dX8_init_5 : decode cX8_init 5 = .ok (.aload_n 1, 1) := by decide +kernel
theorem dX8_init_6 : decode cX8_init 6 = .ok (.putfield 9, 3) := by decide +kernel
theorem dX8_init_9 : decode cX8_init 9 = .ok (.aload_n 0, 1) := by decide +kernel
theorem dX8_init_10 : decode cX8_init 10 = .ok (.aload_n 2, 1) := by decide +kernel
theorem dX8_init_11 : decode cX8_init 11 = .ok (.putfield 15, 3) := by decide +kernel
theorem dX8_init_14 : decode cX8_init 14 = .ok (.aload_n 0, 1) := by decide +kernel
theorem dX8_init_15 : decode cX8_init 15 = .ok (.aload_n 3, 1) := by decide +kernel
theorem dX8_init_16 : decode cX8_init 16 = .ok (.putfield 19, 3) := by decide +kernel
theorem dX8_init_19 : decode cX8_init 19 = .ok (.aload_n 0, 1) := by decide +kernel
theorem dX8_init_20 : decode cX8_init 20 = .ok (.aload 4, 2) := by decide +kernel
theorem dX8_init_22 : decode cX8_init 22 = .ok (.putfield 23, 3) := by decide +kernel
theorem dX8_init_25 : decode cX8_init 25 = .ok (.return_, 1) := by decide +kernel
theorem dX8_perform_0 : decode cX8_perform 0 = .ok (.iload_n 1, 1) := by decide +kernel
theorem dX8_perform_1 : decode cX8_perform 1 = .ok (.bipush 12, 2) := by decide +kernel
theorem dX8_perform_3 : decode cX8_perform 3 = .ok (.iushr, 1) := by decide +kernel
theorem dX8_perform_4 : decode cX8_perform 4 = .ok (.tableswitch 182 0 13 #[72, 72, 96, 96, 102, 140, 146, 146, 146, 152, 158, 164, 170, 176], 72) := by decide +kernel
theorem dX8_perform_76 : decode cX8_perform 76 = .ok (.iload_n 1, 1) := by decide +kernel
theorem dX8_perform_77 : decode cX8_perform 77 = .ok (.bipush 11, 2) := by decide +kernel
theorem dX8_perform_79 : decode cX8_perform 79 = .ok (.invokestatic 27, 3) := by decide +kernel
theorem dX8_perform_82 : decode cX8_perform 82 = .ok (.iconst 3, 1) := by decide +kernel
theorem dX8_perform_83 : decode cX8_perform 83 = .ok (.if_icmp .ne 11, 3) := by decide +kernel
theorem dX8_perform_86 : decode cX8_perform 86 = .ok (.aload_n 0, 1) := by decide +kernel
theorem dX8_perform_87 : decode cX8_perform 87 = .ok (.iload_n 1, 1) := by decide +kernel
theorem dX8_perform_88 : decode cX8_perform 88 = .ok (.invokevirtual 33, 3) := by decide +kernel
theorem dX8_perform_91 : decode cX8_perform 91 = .ok (.goto 8, 3) := by decide +kernel
theorem dX8_perform_94 : decode cX8_perform 94 = .ok (.aload_n 0, 1) := by decide +kernel
theorem dX8_perform_95 : decode cX8_perform 95 = .ok (.iload_n 1, 1) := by decide +kernel
theorem dX8_perform_96 : decode cX8_perform 96 = .ok (.invokevirtual 37, 3) := by decide +kernel
theorem dX8_perform_99 : decode cX8_perform 99 = .ok (.ireturn, 1) := by decide +kernel
theorem dX8_perform_100 : decode cX8_perform 100 = .ok (.aload_n 0, 1) := by decide +kernel
theorem dX8_perform_101 : decode cX8_perform 101 = .ok (.iload_n 1, 1) := by decide +kernel
theorem dX8_perform_102 : decode cX8_perform 102 = .ok (.invokevirtual 40, 3) := by decide +kernel
theorem dX8_perform_105 : decode cX8_perform 105 = .ok (.ireturn, 1) := by decide +kernel
theorem dX8_perform_106 : decode cX8_perform 106 = .ok (.iload_n 1, 1) := by decide +kernel
theorem dX8_perform_107 : decode cX8_perform 107 = .ok (.bipush 11, 2) := by decide +kernel
theorem dX8_perform_109 : decode cX8_perform 109 = .ok (.invokestatic 43, 3) := by decide +kernel
theorem dX8_perform_112 : decode cX8_perform 112 = .ok (.ifCond .eq 9, 3) := by decide +kernel
theorem dX8_perform_115 : decode cX8_perform 115 = .ok (.aload_n 0, 1) := by decide +kernel
theorem dX8_perform_116 : decode cX8_perform 116 = .ok (.iload_n 1, 1) := by decide +kernel
theorem dX8_perform_117 : decode cX8_perform 117 = .ok (.invokevirtual 47, 3) := by decide +kernel
theorem dX8_perform_120 : decode cX8_perform 120 = .ok (.ireturn, 1) := by decide +kernel
theorem dX8_perform_121 : decode cX8_perform 121 = .ok (.iload_n 1, 1) := by decide +kernel
theorem dX8_perform_122 : decode cX8_perform 122 = .ok (.bipush 10, 2) := by decide +kernel
theorem dX8_perform_124 : decode cX8_perform 124 = .ok (.invokestatic 43, 3) := by decide +kernel
theorem dX8_perform_127 : decode cX8_perform 127 = .ok (.ifCond .eq 11, 3) := by decide +kernel
theorem dX8_perform_130 : decode cX8_perform 130 = .ok (.aload_n 0, 1) := by decide +kernel
theorem dX8_perform_131 : decode cX8_perform 131 = .ok (.iload_n 1, 1) := by decide +kernel
theorem dX8_perform_132 : decode cX8_perform 132 = .ok (.invokevirtual 50, 3) := by decide +kernel
theorem dX8_perform_135 : decode cX8_perform 135 = .ok (.goto 8, 3) := by decide +kernel
theorem dX8_perform_138 : decode cX8_perform 138 = .ok (.aload_n 0, 1) := by decide +kernel
theorem dX8_perform_139 : decode cX8_perform 139 = .ok (.iload_n 1, 1) := by decide +kernel
theorem dX8_perform_140 : decode cX8_perform 140 = .ok (.invokevirtual 53, 3) := by decide +kernel
theorem dX8_perform_143 : decode cX8_perform 143 = .ok (.ireturn, 1) := by decide +kernel
theorem dX8_perform_144 : decode cX8_perform 144 = .ok (.aload_n 0, 1) := by decide +kernel
theorem dX8_perform_145 : decode cX8_perform 145 = .ok (.iload_n 1, 1) := by decide +kernel
theorem dX8_perform_146 : decode cX8_perform 146 = .ok (.invokevirtual 56, 3) := by decide +kernel
theorem dX8_perform_149 : decode cX8_perform 149 = .ok (.ireturn, 1) := by decide +kernel
theorem dX8_perform_150 : decode cX8_perform 150 = .ok (.aload_n 0, 1) := by decide +kernel
theorem dX8_perform_151 : decode cX8_perform 151 = .ok (.iload_n 1, 1) := by decide +kernel
theorem dX8_perform_152 : decode cX8_perform 152 = .ok (.invokevirtual 59, 3) := by decide +kernel
theorem dX8_perform_155 : decode cX8_perform 155 = .ok (.ireturn, 1) := by decide +kernel
theorem dX8_perform_156 : decode cX8_perform 156 = .ok (.aload_n 0, 1) := by decide +kernel
theorem dX8_perform_157 : decode cX8_perform 157 = .ok (.iload_n 1, 1) := by decide +kernel
theorem dX8_perform_158 : decode cX8_perform 158 = .ok (.invokevirtual 62, 3) := by decide +kernel
theorem dX8_perform_161 : decode cX8_perform 161 = .ok (.ireturn, 1) := by decide +kernel
theorem dX8_perform_162 : decode cX8_perform 162 = .ok (.aload_n 0, 1) := by decide +kernel
theorem dX8_perform_163 : decode cX8_perform 163 = .ok (.iload_n 1, 1) := by decide +kernel
theorem dX8_perform_164 : decode cX8_perform 164 = .ok (.invokevirtual 65, 3) := by decide +kernel
theorem dX8_perform_167 : decode cX8_perform 167 = .ok (.ireturn, 1) := by decide +kernel
theorem dX8_perform_168 : decode cX8_perform 168 = .ok (.aload_n 0, 1) := by decide +kernel
theorem dX8_perform_169 : decode cX8_perform 169 = .ok (.iload_n 1, 1) := by decide +kernel
theorem dX8_perform_170 : decode cX8_perform 170 = .ok (.invokevirtual 68, 3) := by decide +kernel
theorem dX8_perform_173 : decode cX8_perform 173 = .ok (.ireturn, 1) := by decide +kernel
theorem dX8_perform_174 : decode cX8_perform 174 = .ok (.aload_n 0, 1) := by decide +kernel
theorem dX8_perform_175 : decode cX8_perform 175 = .ok (.iload_n 1, 1) := by decide +kernel
theorem dX8_perform_176 : decode cX8_perform 176 = .ok (.invokevirtual 71, 3) := by decide +kernel
theorem dX8_perform_179 : decode cX8_perform 179 = .ok (.ireturn, 1) := by decide +kernel
theorem dX8_perform_180 : decode cX8_perform 180 = .ok (.aload_n 0, 1) := by decide +kernel
theorem dX8_perform_181 : decode cX8_perform 181 = .ok (.iload_n 1, 1) := by decide +kernel
theorem dX8_perform_182 : decode cX8_perform 182 = .ok (.invokevirtual 74, 3) := by decide +kernel
theorem dX8_perform_185 : decode cX8_perform 185 = .ok (.ireturn, 1) := by decide +kernel
theorem dX8_perform_186 : decode cX8_perform 186 = .ok (.aload_n 0, 1) := by decide +kernel
theorem dX8_perform_187 : decode cX8_perform 187 = .ok (.iload_n 1, 1) := by decide +kernel
theorem dX8_perform_188 : decode cX8_perform 188 = .ok (.invokevirtual 77, 3) := by decide +kernel
theorem dX8_perform_191 : decode cX8_perform 191 = .ok (.ireturn, 1) := by decide +kernel
theorem dX8_shiftByNumber_0 : decode cX8_shiftByNumber 0 = .ok (.aload_n 0, 1) := by decide +kernel
theorem dX8_shiftByNumber_1 : decode cX8_shiftByNumber 1 = .ok (.getfield 9, 3) := by decide +kernel
theorem dX8_shiftByNumber_4 : decode cX8_shiftByNumber 4 = .ok (.iload_n 1, 1) := by decide +kernel
theorem dX8_shiftByNumber_5 : decode cX8_shiftByNumber 5 = .ok (.iconst 3, 1) := by decide +kernel
theorem dX8_shiftByNumber_6 : decode cX8_shiftByNumber 6 = .ok (.invokestatic 80, 3) := by decide +kernel
theorem dX8_shiftByNumber_9 : decode cX8_shiftByNumber 9 = .ok (.invokevirtual 83, 3) := by decide +kernel
theorem dX8_shiftByNumber_12 : decode cX8_shiftByNumber 12 = .ok (.istore_n 2, 1) := by decide +kernel
theorem dX8_shiftByNumber_13 : decode cX8_shiftByNumber 13 = .ok (.iload_n 1, 1) := by decide +kernel
theorem dX8_shiftByNumber_14 : decode cX8_shiftByNumber 14 = .ok (.bipush 6, 2) := by decide +kernel
theorem dX8_shiftByNumber_16 : decode cX8_shiftByNumber 16 = .ok (.invokestatic 88, 3) := by decide +kernel
theorem dX8_shiftByNumber_19 : decode cX8_shiftByNumber 19 = .ok (.istore_n 3, 1) := by decide +kernel
theorem dX8_shiftByNumber_20 : decode cX8_shiftByNumber 20 = .ok (.aload_n 0, 1) := by decide +kernel
theorem dX8_shiftByNumber_21 : decode cX8_shiftByNumber 21 = .ok (.getfield 15, 3) := by decide +kernel
theorem dX8_shiftByNumber_24 : decode cX8_shiftByNumber 24 = .ok (.iload_n 1, 1) := by decide +kernel
theorem dX8_shiftByNumber_25 : decode cX8_shiftByNumber 25 = .ok (.bipush 11, 2) := by decide +kernel
theorem dX8_shiftByNumber_27 : decode cX8_shiftByNumber 27 = .ok (.iushr, 1) := by decide +kernel
theorem dX8_shiftByNumber_28 : decode cX8_shiftByNumber 28 = .ok (.iconst 3, 1) := by decide +kernel
theorem dX8_shiftByNumber_29 : decode cX8_shiftByNumber 29 = .ok (.iand, 1) := by decide +kernel
theorem dX8_shiftByNumber_30 : decode cX8_shiftByNumber 30 = .ok (.iload_n 2, 1) := by decide +kernel
theorem dX8_shiftByNumber_31 : decode cX8_shiftByNumber 31 = .ok (.iload_n 3, 1) := by decide +kernel
theorem dX8_shiftByNumber_32 : decode cX8_shiftByNumber 32 = .ok (.aload_n 0, 1) := by decide +kernel
theorem dX8_shiftByNumber_33 : decode cX8_shiftByNumber 33 = .ok (.getfield 9, 3) := by decide +kernel
theorem dX8_shiftByNumber_36 : decode cX8_shiftByNumber 36 = .ok (.invokevirtual 91, 3) := by decide +kernel
theorem dX8_shiftByNumber_39 : decode cX8_shiftByNumber 39 = .ok (.invokevirtual 95, 3) := by decide +kernel
theorem dX8_shiftByNumber_42 : decode cX8_shiftByNumber 42 = .ok (.istore 4, 2) := by decide +kernel
theorem dX8_shiftByNumber_44 : decode cX8_shiftByNumber 44 = .ok (.aload_n 0, 1) := by decide +kernel
theorem dX8_shiftByNumber_45 : decode cX8_shiftByNumber 45 = .ok (.iload_n 1, 1) := by decide +kernel
theorem dX8_shiftByNumber_46 : decode cX8_shiftByNumber 46 = .ok (.iconst 0, 1) := by decide +kernel
theorem dX8_shiftByNumber_47 : decode cX8_shiftByNumber 47 = .ok (.invokestatic 80, 3) := by decide +kernel
theorem dX8_shiftByNumber_50 : decode cX8_shiftByNumber 50 = .ok (.iload 4, 2) := by decide +kernel
theorem dX8_shiftByNumber_52 : decode cX8_shiftByNumber 52 = .ok (.invokevirtual 100, 3) := by decide +kernel
theorem dX8_shiftByNumber_55 : decode cX8_shiftByNumber 55 = .ok (.ireturn, 1) := by decide +kernel
theorem dX8_keepShifted_0 : decode cX8_keepShifted 0 = .ok (.aload_n 0, 1) := by decide +kernel
theorem dX8_keepShifted_1 : decode cX8_keepShifted 1 = .ok (.getfield 19, 3) := by decide +kernel
theorem dX8_keepShifted_4 : decode cX8_keepShifted 4 = .ok (.bipush 13, 2) := by decide +kernel
theorem dX8_keepShifted_6 : decode cX8_keepShifted 6 = .ok (.iconst 0, 1) := by decide +kernel
theorem dX8_keepShifted_7 : decode cX8_keepShifted 7 = .ok (.iload_n 2, 1) := by decide +kernel
theorem dX8_keepShifted_8 : decode cX8_keepShifted 8 = .ok (.aload_n 0, 1) := by decide +kernel
theorem dX8_keepShifted_9 : decode cX8_keepShifted 9 = .ok (.getfield 15, 3) := by decide +kernel
theorem dX8_keepShifted_12 : decode cX8_keepShifted 12 = .ok (.invokevirtual 105, 3) := by decide +kernel
theorem dX8_keepShifted_15 : decode cX8_keepShifted 15 = .ok (.invokevirtual 106, 3) := by decide +kernel
theorem dX8_keepShifted_18 : decode cX8_keepShifted 18 = .ok (.pop, 1) := by decide +kernel
theorem dX8_keepShifted_19 : decode cX8_keepShifted 19 = .ok (.aload_n 0, 1) := by decide +kernel
theorem dX8_keepShifted_20 : decode cX8_keepShifted 20 = .ok (.getfield 9, 3) := by decide +kernel
theorem dX8_keepShifted_23 : decode cX8_keepShifted 23 = .ok (.aload_n 0, 1) := by decide +kernel
theorem dX8_keepShifted_24 : decode cX8_keepShifted 24 = .ok (.getfield 19, 3) := by decide +kernel
theorem dX8_keepShifted_27 : decode cX8_keepShifted 27 = .ok (.invokevirtual 109, 3) := by decide +kernel
theorem dX8_keepShifted_30 : decode cX8_keepShifted 30 = .ok (.invokevirtual 112, 3) := by decide +kernel
theorem dX8_keepShifted_33 : decode cX8_keepShifted 33 = .ok (.aload_n 0, 1) := by decide +kernel
theorem dX8_keepShifted_34 : decode cX8_keepShifted 34 = .ok (.getfield 9, 3) := by decide +kernel
theorem dX8_keepShifted_37 : decode cX8_keepShifted 37 = .ok (.iload_n 1, 1) := by decide +kernel
theorem dX8_keepShifted_38 : decode cX8_keepShifted 38 = .ok (.iload_n 2, 1) := by decide +kernel
theorem dX8_keepShifted_39 : decode cX8_keepShifted 39 = .ok (.invokevirtual 116, 3) := by decide +kernel
theorem dX8_keepShifted_42 : decode cX8_keepShifted 42 = .ok (.iconst (-1), 1) := by decide +kernel
theorem dX8_keepShifted_43 : decode cX8_keepShifted 43 = .ok (.ireturn, 1) := by decide +kernel
theorem dX8_addOrSubtract_0 : decode cX8_addOrSubtract 0 = .ok (.iload_n 1, 1) := by decide +kernel
theorem dX8_addOrSubtract_1 : decode cX8_addOrSubtract 1 = .ok (.bipush 6, 2) := by decide +kernel
theorem dX8_addOrSubtract_3 : decode cX8_addOrSubtract 3 = .ok (.invokestatic 80, 3) := by decide +kernel
theorem dX8_addOrSubtract_6 : decode cX8_addOrSubtract 6 = .ok (.istore_n 2, 1) := by decide +kernel
theorem dX8_addOrSubtract_7 : decode cX8_addOrSubtract 7 = .ok (.iload_n 1, 1) := by decide +kernel
theorem dX8_addOrSubtract_8 : decode cX8_addOrSubtract 8 = .ok (.bipush 10, 2) := by decide +kernel
theorem dX8_addOrSubtract_10 : decode cX8_addOrSubtract 10 = .ok (.invokestatic 43, 3) := by decide +kernel
theorem dX8_addOrSubtract_13 : decode cX8_addOrSubtract 13 = .ok (.ifCond .eq 7, 3) := by decide +kernel
theorem dX8_addOrSubtract_16 : decode cX8_addOrSubtract 16 = .ok (.iload_n 2, 1) := by decide +kernel
theorem dX8_addOrSubtract_17 : decode cX8_addOrSubtract 17 = .ok (.goto 11, 3) := by decide +kernel
theorem dX8_addOrSubtract_20 : decode cX8_addOrSubtract 20 = .ok (.aload_n 0, 1) := by decide +kernel
theorem dX8_addOrSubtract_21 : decode cX8_addOrSubtract 21 = .ok (.getfield 9, 3) := by decide +kernel
theorem dX8_addOrSubtract_24 : decode cX8_addOrSubtract 24 = .ok (.iload_n 2, 1) := by decide +kernel
theorem dX8_addOrSubtract_25 : decode cX8_addOrSubtract 25 = .ok (.invokevirtual 83, 3) := by decide +kernel
theorem dX8_addOrSubtract_28 : decode cX8_addOrSubtract 28 = .ok (.istore_n 3, 1) := by decide +kernel
theorem dX8_addOrSubtract_29 : decode cX8_addOrSubtract 29 = .ok (.iload_n 1, 1) := by decide +kernel
theorem dX8_addOrSubtract_30 : decode cX8_addOrSubtract 30 = .ok (.bipush 9, 2) := by decide +kernel
theorem dX8_addOrSubtract_32 : decode cX8_addOrSubtract 32 = .ok (.invokestatic 43, 3) := by decide +kernel
theorem dX8_addOrSubtract_35 : decode cX8_addOrSubtract 35 = .ok (.ifCond .eq 7, 3) := by decide +kernel
theorem dX8_addOrSubtract_38 : decode cX8_addOrSubtract 38 = .ok (.iconst 2, 1) := by decide +kernel
theorem dX8_addOrSubtract_39 : decode cX8_addOrSubtract 39 = .ok (.goto 4, 3) := by decide +kernel
theorem dX8_addOrSubtract_42 : decode cX8_addOrSubtract 42 = .ok (.iconst 4, 1) := by decide +kernel
theorem dX8_addOrSubtract_43 : decode cX8_addOrSubtract 43 = .ok (.istore 4, 2) := by decide +kernel
theorem dX8_addOrSubtract_45 : decode cX8_addOrSubtract 45 = .ok (.aload_n 0, 1) := by decide +kernel
theorem dX8_addOrSubtract_46 : decode cX8_addOrSubtract 46 = .ok (.getfield 19, 3) := by decide +kernel
theorem dX8_addOrSubtract_49 : decode cX8_addOrSubtract 49 = .ok (.iload 4, 2) := by decide +kernel
theorem dX8_addOrSubtract_51 : decode cX8_addOrSubtract 51 = .ok (.iload_n 1, 1) := by decide +kernel
theorem dX8_addOrSubtract_52 : decode cX8_addOrSubtract 52 = .ok (.iconst 0, 1) := by decide +kernel
theorem dX8_addOrSubtract_53 : decode cX8_addOrSubtract 53 = .ok (.invokestatic 80, 3) := by decide +kernel
theorem dX8_addOrSubtract_56 : decode cX8_addOrSubtract 56 = .ok (.aload_n 0, 1) := by decide +kernel
theorem dX8_addOrSubtract_57 : decode cX8_addOrSubtract 57 = .ok (.getfield 9, 3) := by decide +kernel
theorem dX8_addOrSubtract_60 : decode cX8_addOrSubtract 60 = .ok (.iload_n 1, 1) := by decide +kernel
theorem dX8_addOrSubtract_61 : decode cX8_addOrSubtract 61 = .ok (.iconst 3, 1) := by decide +kernel
theorem dX8_addOrSubtract_62 : decode cX8_addOrSubtract 62 = .ok (.invokestatic 80, 3) := by decide +kernel
theorem dX8_addOrSubtract_65 : decode cX8_addOrSubtract 65 = .ok (.invokevirtual 83, 3) := by decide +kernel
theorem dX8_addOrSubtract_68 : decode cX8_addOrSubtract 68 = .ok (.iload_n 3, 1) := by decide +kernel
theorem dX8_addOrSubtract_69 : decode cX8_addOrSubtract 69 = .ok (.invokevirtual 120, 3) := by decide +kernel
theorem dX8_addOrSubtract_72 : decode cX8_addOrSubtract 72 = .ok (.iconst (-1), 1) := by decide +kernel
theorem dX8_addOrSubtract_73 : decode cX8_addOrSubtract 73 = .ok (.ireturn, 1) := by decide +kernel
theorem dX8_withNumber_0 : decode cX8_withNumber 0 = .ok (.iload_n 1, 1) := by decide +kernel
theorem dX8_withNumber_1 : decode cX8_withNumber 1 = .ok (.bipush 8, 2) := by decide +kernel
theorem dX8_withNumber_3 : decode cX8_withNumber 3 = .ok (.invokestatic 80, 3) := by decide +kernel
theorem dX8_withNumber_6 : decode cX8_withNumber 6 = .ok (.istore_n 2, 1) := by decide +kernel
theorem dX8_withNumber_7 : decode cX8_withNumber 7 = .ok (.iload_n 1, 1) := by decide +kernel
theorem dX8_withNumber_8 : decode cX8_withNumber 8 = .ok (.bipush 11, 2) := by decide +kernel
theorem dX8_withNumber_10 : decode cX8_withNumber 10 = .ok (.iushr, 1) := by decide +kernel
theorem dX8_withNumber_11 : decode cX8_withNumber 11 = .ok (.iconst 3, 1) := by decide +kernel
theorem dX8_withNumber_12 : decode cX8_withNumber 12 = .ok (.iand, 1) := by decide +kernel
theorem dX8_withNumber_13 : decode cX8_withNumber 13 = .ok (.istore_n 3, 1) := by decide +kernel
theorem dX8_withNumber_14 : decode cX8_withNumber 14 = .ok (.iload_n 3, 1) := by decide +kernel
theorem dX8_withNumber_15 : decode cX8_withNumber 15 = .ok (.iconst 2, 1) := by decide +kernel
theorem dX8_withNumber_16 : decode cX8_withNumber 16 = .ok (.if_icmp .ne 7, 3) := by decide +kernel
theorem dX8_withNumber_19 : decode cX8_withNumber 19 = .ok (.iconst 4, 1) := by decide +kernel
theorem dX8_withNumber_20 : decode cX8_withNumber 20 = .ok (.goto 4, 3) := by decide +kernel
theorem dX8_withNumber_23 : decode cX8_withNumber 23 = .ok (.iconst 2, 1) := by decide +kernel
theorem dX8_withNumber_24 : decode cX8_withNumber 24 = .ok (.istore 4, 2) := by decide +kernel
theorem dX8_withNumber_26 : decode cX8_withNumber 26 = .ok (.iload_n 3, 1) := by decide +kernel
theorem dX8_withNumber_27 : decode cX8_withNumber 27 = .ok (.ifCond .ne 8, 3) := by decide +kernel
theorem dX8_withNumber_30 : decode cX8_withNumber 30 = .ok (.bipush 13, 2) := by decide +kernel
theorem dX8_withNumber_32 : decode cX8_withNumber 32 = .ok (.goto 5, 3) := by decide +kernel
theorem dX8_withNumber_35 : decode cX8_withNumber 35 = .ok (.bipush 10, 2) := by decide +kernel
theorem dX8_withNumber_37 : decode cX8_withNumber 37 = .ok (.istore 5, 2) := by decide +kernel
theorem dX8_withNumber_39 : decode cX8_withNumber 39 = .ok (.aload_n 0, 1) := by decide +kernel
theorem dX8_withNumber_40 : decode cX8_withNumber 40 = .ok (.getfield 19, 3) := by decide +kernel
theorem dX8_withNumber_43 : decode cX8_withNumber 43 = .ok (.iload_n 3, 1) := by decide +kernel
theorem dX8_withNumber_44 : decode cX8_withNumber 44 = .ok (.iconst 2, 1) := by decide +kernel
theorem dX8_withNumber_45 : decode cX8_withNumber 45 = .ok (.if_icmp .lt 8, 3) := by decide +kernel
theorem dX8_withNumber_48 : decode cX8_withNumber 48 = .ok (.iload 4, 2) := by decide +kernel
theorem dX8_withNumber_50 : decode cX8_withNumber 50 = .ok (.goto 5, 3) := by decide +kernel
theorem dX8_withNumber_53 : decode cX8_withNumber 53 = .ok (.iload 5, 2) := by decide +kernel
theorem dX8_withNumber_55 : decode cX8_withNumber 55 = .ok (.iload_n 2, 1) := by decide +kernel
theorem dX8_withNumber_56 : decode cX8_withNumber 56 = .ok (.aload_n 0, 1) := by decide +kernel
theorem dX8_withNumber_57 : decode cX8_withNumber 57 = .ok (.getfield 9, 3) := by decide +kernel
theorem dX8_withNumber_60 : decode cX8_withNumber 60 = .ok (.iload_n 2, 1) := by decide +kernel
theorem dX8_withNumber_61 : decode cX8_withNumber 61 = .ok (.invokevirtual 83, 3) := by decide +kernel
theorem dX8_withNumber_64 : decode cX8_withNumber 64 = .ok (.iload_n 1, 1) := by decide +kernel
theorem dX8_withNumber_65 : decode cX8_withNumber 65 = .ok (.sipush 255, 3) := by decide +kernel
theorem dX8_withNumber_68 : decode cX8_withNumber 68 = .ok (.iand, 1) := by decide +kernel
theorem dX8_withNumber_69 : decode cX8_withNumber 69 = .ok (.invokevirtual 120, 3) := by decide +kernel
theorem dX8_withNumber_72 : decode cX8_withNumber 72 = .ok (.iconst (-1), 1) := by decide +kernel
theorem dX8_withNumber_73 : decode cX8_withNumber 73 = .ok (.ireturn, 1) := by decide +kernel
theorem dX8_ofTwoRegisters_0 : decode cX8_ofTwoRegisters 0 = .ok (.iload_n 1, 1) := by decide +kernel
theorem dX8_ofTwoRegisters_1 : decode cX8_ofTwoRegisters 1 = .ok (.iconst 0, 1) := by decide +kernel
theorem dX8_ofTwoRegisters_2 : decode cX8_ofTwoRegisters 2 = .ok (.invokestatic 80, 3) := by decide +kernel
theorem dX8_ofTwoRegisters_5 : decode cX8_ofTwoRegisters 5 = .ok (.istore_n 2, 1) := by decide +kernel
theorem dX8_ofTwoRegisters_6 : decode cX8_ofTwoRegisters 6 = .ok (.iload_n 1, 1) := by decide +kernel
theorem dX8_ofTwoRegisters_7 : decode cX8_ofTwoRegisters 7 = .ok (.bipush 6, 2) := by decide +kernel
theorem dX8_ofTwoRegisters_9 : decode cX8_ofTwoRegisters 9 = .ok (.invokestatic 27, 3) := by decide +kernel
theorem dX8_ofTwoRegisters_12 : decode cX8_ofTwoRegisters 12 = .ok (.istore_n 3, 1) := by decide +kernel
theorem dX8_ofTwoRegisters_13 : decode cX8_ofTwoRegisters 13 = .ok (.aload_n 0, 1) := by decide +kernel
theorem dX8_ofTwoRegisters_14 : decode cX8_ofTwoRegisters 14 = .ok (.getfield 9, 3) := by decide +kernel
theorem dX8_ofTwoRegisters_17 : decode cX8_ofTwoRegisters 17 = .ok (.iload_n 2, 1) := by decide +kernel
theorem dX8_ofTwoRegisters_18 : decode cX8_ofTwoRegisters 18 = .ok (.invokevirtual 83, 3) := by decide +kernel
theorem dX8_ofTwoRegisters_21 : decode cX8_ofTwoRegisters 21 = .ok (.istore 4, 2) := by decide +kernel
theorem dX8_ofTwoRegisters_23 : decode cX8_ofTwoRegisters 23 = .ok (.aload_n 0, 1) := by decide +kernel
theorem dX8_ofTwoRegisters_24 : decode cX8_ofTwoRegisters 24 = .ok (.getfield 9, 3) := by decide +kernel
theorem dX8_ofTwoRegisters_27 : decode cX8_ofTwoRegisters 27 = .ok (.iload_n 1, 1) := by decide +kernel
theorem dX8_ofTwoRegisters_28 : decode cX8_ofTwoRegisters 28 = .ok (.iconst 3, 1) := by decide +kernel
theorem dX8_ofTwoRegisters_29 : decode cX8_ofTwoRegisters 29 = .ok (.invokestatic 80, 3) := by decide +kernel
theorem dX8_ofTwoRegisters_32 : decode cX8_ofTwoRegisters 32 = .ok (.invokevirtual 83, 3) := by decide +kernel
theorem dX8_ofTwoRegisters_35 : decode cX8_ofTwoRegisters 35 = .ok (.istore 5, 2) := by decide +kernel
theorem dX8_ofTwoRegisters_37 : decode cX8_ofTwoRegisters 37 = .ok (.iload_n 3, 1) := by decide +kernel
theorem dX8_ofTwoRegisters_38 : decode cX8_ofTwoRegisters 38 = .ok (.tableswitch 164 2 13 #[62, 62, 62, 164, 164, 93, 164, 122, 164, 164, 164, 136], 62) := by decide +kernel
theorem dX8_ofTwoRegisters_100 : decode cX8_ofTwoRegisters 100 = .ok (.aload_n 0, 1) := by decide +kernel
theorem dX8_ofTwoRegisters_101 : decode cX8_ofTwoRegisters 101 = .ok (.iload_n 2, 1) := by decide +kernel
theorem dX8_ofTwoRegisters_102 : decode cX8_ofTwoRegisters 102 = .ok (.aload_n 0, 1) := by decide +kernel
theorem dX8_ofTwoRegisters_103 : decode cX8_ofTwoRegisters 103 = .ok (.getfield 15, 3) := by decide +kernel
theorem dX8_ofTwoRegisters_106 : decode cX8_ofTwoRegisters 106 = .ok (.iload_n 3, 1) := by decide +kernel
theorem dX8_ofTwoRegisters_107 : decode cX8_ofTwoRegisters 107 = .ok (.iconst 2, 1) := by decide +kernel
theorem dX8_ofTwoRegisters_108 : decode cX8_ofTwoRegisters 108 = .ok (.isub, 1) := by decide +kernel
theorem dX8_ofTwoRegisters_109 : decode cX8_ofTwoRegisters 109 = .ok (.iload 4, 2) := by decide +kernel
theorem dX8_ofTwoRegisters_111 : decode cX8_ofTwoRegisters 111 = .ok (.iload 5, 2) := by decide +kernel
theorem dX8_ofTwoRegisters_113 : decode cX8_ofTwoRegisters 113 = .ok (.sipush 255, 3) := by decide +kernel
theorem dX8_ofTwoRegisters_116 : decode cX8_ofTwoRegisters 116 = .ok (.iand, 1) := by decide +kernel
theorem dX8_ofTwoRegisters_117 : decode cX8_ofTwoRegisters 117 = .ok (.aload_n 0, 1) := by decide +kernel
theorem dX8_ofTwoRegisters_118 : decode cX8_ofTwoRegisters 118 = .ok (.getfield 9, 3) := by decide +kernel
theorem dX8_ofTwoRegisters_121 : decode cX8_ofTwoRegisters 121 = .ok (.invokevirtual 91, 3) := by decide +kernel
theorem dX8_ofTwoRegisters_124 : decode cX8_ofTwoRegisters 124 = .ok (.invokevirtual 124, 3) := by decide +kernel
theorem dX8_ofTwoRegisters_127 : decode cX8_ofTwoRegisters 127 = .ok (.invokevirtual 100, 3) := by decide +kernel
theorem dX8_ofTwoRegisters_130 : decode cX8_ofTwoRegisters 130 = .ok (.ireturn, 1) := by decide +kernel
theorem dX8_ofTwoRegisters_131 : decode cX8_ofTwoRegisters 131 = .ok (.aload_n 0, 1) := by decide +kernel
theorem dX8_ofTwoRegisters_132 : decode cX8_ofTwoRegisters 132 = .ok (.iload_n 2, 1) := by decide +kernel
theorem dX8_ofTwoRegisters_133 : decode cX8_ofTwoRegisters 133 = .ok (.aload_n 0, 1) := by decide +kernel
theorem dX8_ofTwoRegisters_134 : decode cX8_ofTwoRegisters 134 = .ok (.getfield 15, 3) := by decide +kernel
theorem dX8_ofTwoRegisters_137 : decode cX8_ofTwoRegisters 137 = .ok (.iconst 3, 1) := by decide +kernel
theorem dX8_ofTwoRegisters_138 : decode cX8_ofTwoRegisters 138 = .ok (.iload 4, 2) := by decide +kernel
theorem dX8_ofTwoRegisters_140 : decode cX8_ofTwoRegisters 140 = .ok (.iload 5, 2) := by decide +kernel
theorem dX8_ofTwoRegisters_142 : decode cX8_ofTwoRegisters 142 = .ok (.sipush 255, 3) := by decide +kernel
theorem dX8_ofTwoRegisters_145 : decode cX8_ofTwoRegisters 145 = .ok (.iand, 1) := by decide +kernel
theorem dX8_ofTwoRegisters_146 : decode cX8_ofTwoRegisters 146 = .ok (.aload_n 0, 1) := by decide +kernel
theorem dX8_ofTwoRegisters_147 : decode cX8_ofTwoRegisters 147 = .ok (.getfield 9, 3) := by decide +kernel
theorem dX8_ofTwoRegisters_150 : decode cX8_ofTwoRegisters 150 = .ok (.invokevirtual 91, 3) := by decide +kernel
theorem dX8_ofTwoRegisters_153 : decode cX8_ofTwoRegisters 153 = .ok (.invokevirtual 124, 3) := by decide +kernel
theorem dX8_ofTwoRegisters_156 : decode cX8_ofTwoRegisters 156 = .ok (.invokevirtual 100, 3) := by decide +kernel
theorem dX8_ofTwoRegisters_159 : decode cX8_ofTwoRegisters 159 = .ok (.ireturn, 1) := by decide +kernel
theorem dX8_ofTwoRegisters_160 : decode cX8_ofTwoRegisters 160 = .ok (.aload_n 0, 1) := by decide +kernel
theorem dX8_ofTwoRegisters_161 : decode cX8_ofTwoRegisters 161 = .ok (.getfield 19, 3) := by decide +kernel
theorem dX8_ofTwoRegisters_164 : decode cX8_ofTwoRegisters 164 = .ok (.iconst 3, 1) := by decide +kernel
theorem dX8_ofTwoRegisters_165 : decode cX8_ofTwoRegisters 165 = .ok (.iload_n 2, 1) := by decide +kernel
theorem dX8_ofTwoRegisters_166 : decode cX8_ofTwoRegisters 166 = .ok (.iload 5, 2) := by decide +kernel
theorem dX8_ofTwoRegisters_168 : decode cX8_ofTwoRegisters 168 = .ok (.iconst 0, 1) := by decide +kernel
theorem dX8_ofTwoRegisters_169 : decode cX8_ofTwoRegisters 169 = .ok (.invokevirtual 120, 3) := by decide +kernel
theorem dX8_ofTwoRegisters_172 : decode cX8_ofTwoRegisters 172 = .ok (.iconst (-1), 1) := by decide +kernel
theorem dX8_ofTwoRegisters_173 : decode cX8_ofTwoRegisters 173 = .ok (.ireturn, 1) := by decide +kernel
theorem dX8_ofTwoRegisters_174 : decode cX8_ofTwoRegisters 174 = .ok (.aload_n 0, 1) := by decide +kernel
theorem dX8_ofTwoRegisters_175 : decode cX8_ofTwoRegisters 175 = .ok (.getfield 9, 3) := by decide +kernel
theorem dX8_ofTwoRegisters_178 : decode cX8_ofTwoRegisters 178 = .ok (.iload_n 2, 1) := by decide +kernel
theorem dX8_ofTwoRegisters_179 : decode cX8_ofTwoRegisters 179 = .ok (.iload 4, 2) := by decide +kernel
theorem dX8_ofTwoRegisters_181 : decode cX8_ofTwoRegisters 181 = .ok (.iload 5, 2) := by decide +kernel
theorem dX8_ofTwoRegisters_183 : decode cX8_ofTwoRegisters 183 = .ok (.imul, 1) := by decide +kernel
theorem dX8_ofTwoRegisters_184 : decode cX8_ofTwoRegisters 184 = .ok (.invokevirtual 116, 3) := by decide +kernel
theorem dX8_ofTwoRegisters_187 : decode cX8_ofTwoRegisters 187 = .ok (.aload_n 0, 1) := by decide +kernel
theorem dX8_ofTwoRegisters_188 : decode cX8_ofTwoRegisters 188 = .ok (.getfield 19, 3) := by decide +kernel
theorem dX8_ofTwoRegisters_191 : decode cX8_ofTwoRegisters 191 = .ok (.iload 4, 2) := by decide +kernel
theorem dX8_ofTwoRegisters_193 : decode cX8_ofTwoRegisters 193 = .ok (.iload 5, 2) := by decide +kernel
theorem dX8_ofTwoRegisters_195 : decode cX8_ofTwoRegisters 195 = .ok (.imul, 1) := by decide +kernel
theorem dX8_ofTwoRegisters_196 : decode cX8_ofTwoRegisters 196 = .ok (.i2l, 1) := by decide +kernel
theorem dX8_ofTwoRegisters_197 : decode cX8_ofTwoRegisters 197 = .ok (.invokevirtual 127, 3) := by decide +kernel
theorem dX8_ofTwoRegisters_200 : decode cX8_ofTwoRegisters 200 = .ok (.iconst (-1), 1) := by decide +kernel
theorem dX8_ofTwoRegisters_201 : decode cX8_ofTwoRegisters 201 = .ok (.ireturn, 1) := by decide +kernel
theorem dX8_ofTwoRegisters_202 : decode cX8_ofTwoRegisters 202 = .ok (.aload_n 0, 1) := by decide +kernel
theorem dX8_ofTwoRegisters_203 : decode cX8_ofTwoRegisters 203 = .ok (.getfield 19, 3) := by decide +kernel
theorem dX8_ofTwoRegisters_206 : decode cX8_ofTwoRegisters 206 = .ok (.iload_n 3, 1) := by decide +kernel
theorem dX8_ofTwoRegisters_207 : decode cX8_ofTwoRegisters 207 = .ok (.iload_n 2, 1) := by decide +kernel
theorem dX8_ofTwoRegisters_208 : decode cX8_ofTwoRegisters 208 = .ok (.iload 4, 2) := by decide +kernel
theorem dX8_ofTwoRegisters_210 : decode cX8_ofTwoRegisters 210 = .ok (.iload 5, 2) := by decide +kernel
theorem dX8_ofTwoRegisters_212 : decode cX8_ofTwoRegisters 212 = .ok (.invokevirtual 120, 3) := by decide +kernel
theorem dX8_ofTwoRegisters_215 : decode cX8_ofTwoRegisters 215 = .ok (.iconst (-1), 1) := by decide +kernel
theorem dX8_ofTwoRegisters_216 : decode cX8_ofTwoRegisters 216 = .ok (.ireturn, 1) := by decide +kernel
theorem dX8_ofAllRegisters_0 : decode cX8_ofAllRegisters 0 = .ok (.iload_n 1, 1) := by decide +kernel
theorem dX8_ofAllRegisters_1 : decode cX8_ofAllRegisters 1 = .ok (.iconst 0, 1) := by decide +kernel
theorem dX8_ofAllRegisters_2 : decode cX8_ofAllRegisters 2 = .ok (.invokestatic 80, 3) := by decide +kernel
theorem dX8_ofAllRegisters_5 : decode cX8_ofAllRegisters 5 = .ok (.iload_n 1, 1) := by decide +kernel
theorem dX8_ofAllRegisters_6 : decode cX8_ofAllRegisters 6 = .ok (.iconst 4, 1) := by decide +kernel
theorem dX8_ofAllRegisters_7 : decode cX8_ofAllRegisters 7 = .ok (.iushr, 1) := by decide +kernel
theorem dX8_ofAllRegisters_8 : decode cX8_ofAllRegisters 8 = .ok (.bipush 8, 2) := by decide +kernel
theorem dX8_ofAllRegisters_10 : decode cX8_ofAllRegisters 10 = .ok (.iand, 1) := by decide +kernel
theorem dX8_ofAllRegisters_11 : decode cX8_ofAllRegisters 11 = .ok (.ior, 1) := by decide +kernel
theorem dX8_ofAllRegisters_12 : decode cX8_ofAllRegisters 12 = .ok (.istore_n 2, 1) := by decide +kernel
theorem dX8_ofAllRegisters_13 : decode cX8_ofAllRegisters 13 = .ok (.aload_n 0, 1) := by decide +kernel
theorem dX8_ofAllRegisters_14 : decode cX8_ofAllRegisters 14 = .ok (.getfield 9, 3) := by decide +kernel
theorem dX8_ofAllRegisters_17 : decode cX8_ofAllRegisters 17 = .ok (.iload_n 1, 1) := by decide +kernel
theorem dX8_ofAllRegisters_18 : decode cX8_ofAllRegisters 18 = .ok (.iconst 3, 1) := by decide +kernel
theorem dX8_ofAllRegisters_19 : decode cX8_ofAllRegisters 19 = .ok (.invokestatic 27, 3) := by decide +kernel
theorem dX8_ofAllRegisters_22 : decode cX8_ofAllRegisters 22 = .ok (.invokevirtual 83, 3) := by decide +kernel
theorem dX8_ofAllRegisters_25 : decode cX8_ofAllRegisters 25 = .ok (.istore_n 3, 1) := by decide +kernel
theorem dX8_ofAllRegisters_26 : decode cX8_ofAllRegisters 26 = .ok (.iload_n 1, 1) := by decide +kernel
theorem dX8_ofAllRegisters_27 : decode cX8_ofAllRegisters 27 = .ok (.bipush 8, 2) := by decide +kernel
theorem dX8_ofAllRegisters_29 : decode cX8_ofAllRegisters 29 = .ok (.iushr, 1) := by decide +kernel
theorem dX8_ofAllRegisters_30 : decode cX8_ofAllRegisters 30 = .ok (.iconst 3, 1) := by decide +kernel
theorem dX8_ofAllRegisters_31 : decode cX8_ofAllRegisters 31 = .ok (.iand, 1) := by decide +kernel
theorem dX8_ofAllRegisters_32 : decode cX8_ofAllRegisters 32 = .ok (.tableswitch 80 0 2 #[28, 48, 69], 28) := by decide +kernel
theorem dX8_ofAllRegisters_60 : decode cX8_ofAllRegisters 60 = .ok (.aload_n 0, 1) := by decide +kernel
theorem dX8_ofAllRegisters_61 : decode cX8_ofAllRegisters 61 = .ok (.getfield 9, 3) := by decide +kernel
theorem dX8_ofAllRegisters_64 : decode cX8_ofAllRegisters 64 = .ok (.iload_n 2, 1) := by decide +kernel
theorem dX8_ofAllRegisters_65 : decode cX8_ofAllRegisters 65 = .ok (.aload_n 0, 1) := by decide +kernel
theorem dX8_ofAllRegisters_66 : decode cX8_ofAllRegisters 66 = .ok (.getfield 9, 3) := by decide +kernel
theorem dX8_ofAllRegisters_69 : decode cX8_ofAllRegisters 69 = .ok (.iload_n 2, 1) := by decide +kernel
theorem dX8_ofAllRegisters_70 : decode cX8_ofAllRegisters 70 = .ok (.invokevirtual 83, 3) := by decide +kernel
theorem dX8_ofAllRegisters_73 : decode cX8_ofAllRegisters 73 = .ok (.iload_n 3, 1) := by decide +kernel
theorem dX8_ofAllRegisters_74 : decode cX8_ofAllRegisters 74 = .ok (.iadd, 1) := by decide +kernel
theorem dX8_ofAllRegisters_75 : decode cX8_ofAllRegisters 75 = .ok (.invokevirtual 116, 3) := by decide +kernel
theorem dX8_ofAllRegisters_78 : decode cX8_ofAllRegisters 78 = .ok (.iconst (-1), 1) := by decide +kernel
theorem dX8_ofAllRegisters_79 : decode cX8_ofAllRegisters 79 = .ok (.ireturn, 1) := by decide +kernel
theorem dX8_ofAllRegisters_80 : decode cX8_ofAllRegisters 80 = .ok (.aload_n 0, 1) := by decide +kernel
theorem dX8_ofAllRegisters_81 : decode cX8_ofAllRegisters 81 = .ok (.getfield 19, 3) := by decide +kernel
theorem dX8_ofAllRegisters_84 : decode cX8_ofAllRegisters 84 = .ok (.bipush 10, 2) := by decide +kernel
theorem dX8_ofAllRegisters_86 : decode cX8_ofAllRegisters 86 = .ok (.iload_n 2, 1) := by decide +kernel
theorem dX8_ofAllRegisters_87 : decode cX8_ofAllRegisters 87 = .ok (.aload_n 0, 1) := by decide +kernel
theorem dX8_ofAllRegisters_88 : decode cX8_ofAllRegisters 88 = .ok (.getfield 9, 3) := by decide +kernel
theorem dX8_ofAllRegisters_91 : decode cX8_ofAllRegisters 91 = .ok (.iload_n 2, 1) := by decide +kernel
theorem dX8_ofAllRegisters_92 : decode cX8_ofAllRegisters 92 = .ok (.invokevirtual 83, 3) := by decide +kernel
theorem dX8_ofAllRegisters_95 : decode cX8_ofAllRegisters 95 = .ok (.iload_n 3, 1) := by decide +kernel
theorem dX8_ofAllRegisters_96 : decode cX8_ofAllRegisters 96 = .ok (.invokevirtual 120, 3) := by decide +kernel
theorem dX8_ofAllRegisters_99 : decode cX8_ofAllRegisters 99 = .ok (.iconst (-1), 1) := by decide +kernel
theorem dX8_ofAllRegisters_100 : decode cX8_ofAllRegisters 100 = .ok (.ireturn, 1) := by decide +kernel
theorem dX8_ofAllRegisters_101 : decode cX8_ofAllRegisters 101 = .ok (.aload_n 0, 1) := by decide +kernel
theorem dX8_ofAllRegisters_102 : decode cX8_ofAllRegisters 102 = .ok (.getfield 9, 3) := by decide +kernel
theorem dX8_ofAllRegisters_105 : decode cX8_ofAllRegisters 105 = .ok (.iload_n 2, 1) := by decide +kernel
theorem dX8_ofAllRegisters_106 : decode cX8_ofAllRegisters 106 = .ok (.iload_n 3, 1) := by decide +kernel
theorem dX8_ofAllRegisters_107 : decode cX8_ofAllRegisters 107 = .ok (.invokevirtual 116, 3) := by decide +kernel
theorem dX8_ofAllRegisters_110 : decode cX8_ofAllRegisters 110 = .ok (.iconst (-1), 1) := by decide +kernel
theorem dX8_ofAllRegisters_111 : decode cX8_ofAllRegisters 111 = .ok (.ireturn, 1) := by decide +kernel
theorem dX8_ofAllRegisters_112 : decode cX8_ofAllRegisters 112 = .ok (.iload_n 1, 1) := by decide +kernel
theorem dX8_ofAllRegisters_113 : decode cX8_ofAllRegisters 113 = .ok (.bipush 7, 2) := by decide +kernel
theorem dX8_ofAllRegisters_115 : decode cX8_ofAllRegisters 115 = .ok (.invokestatic 43, 3) := by decide +kernel
theorem dX8_ofAllRegisters_118 : decode cX8_ofAllRegisters 118 = .ok (.ifCond .eq 5, 3) := by decide +kernel
theorem dX8_ofAllRegisters_121 : decode cX8_ofAllRegisters 121 = .ok (.iconst 0, 1) := by decide +kernel
theorem dX8_ofAllRegisters_122 : decode cX8_ofAllRegisters 122 = .ok (.ireturn, 1) := by decide +kernel
theorem dX8_ofAllRegisters_123 : decode cX8_ofAllRegisters 123 = .ok (.aload_n 0, 1) := by decide +kernel
theorem dX8_ofAllRegisters_124 : decode cX8_ofAllRegisters 124 = .ok (.getfield 9, 3) := by decide +kernel
theorem dX8_ofAllRegisters_127 : decode cX8_ofAllRegisters 127 = .ok (.iload_n 3, 1) := by decide +kernel
theorem dX8_ofAllRegisters_128 : decode cX8_ofAllRegisters 128 = .ok (.invokevirtual 133, 3) := by decide +kernel
theorem dX8_ofAllRegisters_131 : decode cX8_ofAllRegisters 131 = .ok (.iconst (-1), 1) := by decide +kernel
theorem dX8_ofAllRegisters_132 : decode cX8_ofAllRegisters 132 = .ok (.ireturn, 1) := by decide +kernel
theorem dX8_wordOfPc_0 : decode cX8_wordOfPc 0 = .ok (.aload_n 0, 1) := by decide +kernel
theorem dX8_wordOfPc_1 : decode cX8_wordOfPc 1 = .ok (.getfield 9, 3) := by decide +kernel
theorem dX8_wordOfPc_4 : decode cX8_wordOfPc 4 = .ok (.bipush 15, 2) := by decide +kernel
theorem dX8_wordOfPc_6 : decode cX8_wordOfPc 6 = .ok (.invokevirtual 83, 3) := by decide +kernel
theorem dX8_wordOfPc_9 : decode cX8_wordOfPc 9 = .ok (.bipush (-4), 2) := by decide +kernel
theorem dX8_wordOfPc_11 : decode cX8_wordOfPc 11 = .ok (.iand, 1) := by decide +kernel
theorem dX8_wordOfPc_12 : decode cX8_wordOfPc 12 = .ok (.ireturn, 1) := by decide +kernel
theorem dX8_loadBesidePc_0 : decode cX8_loadBesidePc 0 = .ok (.aload_n 0, 1) := by decide +kernel
theorem dX8_loadBesidePc_1 : decode cX8_loadBesidePc 1 = .ok (.invokevirtual 136, 3) := by decide +kernel
theorem dX8_loadBesidePc_4 : decode cX8_loadBesidePc 4 = .ok (.iconst 4, 1) := by decide +kernel
theorem dX8_loadBesidePc_5 : decode cX8_loadBesidePc 5 = .ok (.iload_n 1, 1) := by decide +kernel
theorem dX8_loadBesidePc_6 : decode cX8_loadBesidePc 6 = .ok (.sipush 255, 3) := by decide +kernel
theorem dX8_loadBesidePc_9 : decode cX8_loadBesidePc 9 = .ok (.iand, 1) := by decide +kernel
theorem dX8_loadBesidePc_10 : decode cX8_loadBesidePc 10 = .ok (.imul, 1) := by decide +kernel
theorem dX8_loadBesidePc_11 : decode cX8_loadBesidePc 11 = .ok (.iadd, 1) := by decide +kernel
theorem dX8_loadBesidePc_12 : decode cX8_loadBesidePc 12 = .ok (.istore_n 2, 1) := by decide +kernel
theorem dX8_loadBesidePc_13 : decode cX8_loadBesidePc 13 = .ok (.aload_n 0, 1) := by decide +kernel
theorem dX8_loadBesidePc_14 : decode cX8_loadBesidePc 14 = .ok (.getfield 23, 3) := by decide +kernel
theorem dX8_loadBesidePc_17 : decode cX8_loadBesidePc 17 = .ok (.iconst 1, 1) := by decide +kernel
theorem dX8_loadBesidePc_18 : decode cX8_loadBesidePc 18 = .ok (.iconst 0, 1) := by decide +kernel
theorem dX8_loadBesidePc_19 : decode cX8_loadBesidePc 19 = .ok (.iload_n 1, 1) := by decide +kernel
theorem dX8_loadBesidePc_20 : decode cX8_loadBesidePc 20 = .ok (.bipush 8, 2) := by decide +kernel
theorem dX8_loadBesidePc_22 : decode cX8_loadBesidePc 22 = .ok (.invokestatic 80, 3) := by decide +kernel
theorem dX8_loadBesidePc_25 : decode cX8_loadBesidePc 25 = .ok (.iload_n 2, 1) := by decide +kernel
theorem dX8_loadBesidePc_26 : decode cX8_loadBesidePc 26 = .ok (.invokevirtual 141, 3) := by decide +kernel
theorem dX8_loadBesidePc_29 : decode cX8_loadBesidePc 29 = .ok (.ireturn, 1) := by decide +kernel
theorem dX8_byRegisterOffset_0 : decode cX8_byRegisterOffset 0 = .ok (.iload_n 1, 1) := by decide +kernel
theorem dX8_byRegisterOffset_1 : decode cX8_byRegisterOffset 1 = .ok (.bipush 9, 2) := by decide +kernel
theorem dX8_byRegisterOffset_3 : decode cX8_byRegisterOffset 3 = .ok (.invokestatic 80, 3) := by decide +kernel
theorem dX8_byRegisterOffset_6 : decode cX8_byRegisterOffset 6 = .ok (.istore_n 2, 1) := by decide +kernel
theorem dX8_byRegisterOffset_7 : decode cX8_byRegisterOffset 7 = .ok (.aload_n 0, 1) := by decide +kernel
theorem dX8_byRegisterOffset_8 : decode cX8_byRegisterOffset 8 = .ok (.getfield 9, 3) := by decide +kernel
theorem dX8_byRegisterOffset_11 : decode cX8_byRegisterOffset 11 = .ok (.iload_n 1, 1) := by decide +kernel
theorem dX8_byRegisterOffset_12 : decode cX8_byRegisterOffset 12 = .ok (.iconst 3, 1) := by decide +kernel
theorem dX8_byRegisterOffset_13 : decode cX8_byRegisterOffset 13 = .ok (.invokestatic 80, 3) := by decide +kernel
theorem dX8_byRegisterOffset_16 : decode cX8_byRegisterOffset 16 = .ok (.invokevirtual 83, 3) := by decide +kernel
theorem dX8_byRegisterOffset_19 : decode cX8_byRegisterOffset 19 = .ok (.aload_n 0, 1) := by decide +kernel
theorem dX8_byRegisterOffset_20 : decode cX8_byRegisterOffset 20 = .ok (.getfield 9, 3) := by decide +kernel
theorem dX8_byRegisterOffset_23 : decode cX8_byRegisterOffset 23 = .ok (.iload_n 1, 1) := by decide +kernel
theorem dX8_byRegisterOffset_24 : decode cX8_byRegisterOffset 24 = .ok (.bipush 6, 2) := by decide +kernel
theorem dX8_byRegisterOffset_26 : decode cX8_byRegisterOffset 26 = .ok (.invokestatic 80, 3) := by decide +kernel
theorem dX8_byRegisterOffset_29 : decode cX8_byRegisterOffset 29 = .ok (.invokevirtual 83, 3) := by decide +kernel
theorem dX8_byRegisterOffset_32 : decode cX8_byRegisterOffset 32 = .ok (.iadd, 1) := by decide +kernel
theorem dX8_byRegisterOffset_33 : decode cX8_byRegisterOffset 33 = .ok (.istore_n 3, 1) := by decide +kernel
theorem dX8_byRegisterOffset_34 : decode cX8_byRegisterOffset 34 = .ok (.aload_n 0, 1) := by decide +kernel
theorem dX8_byRegisterOffset_35 : decode cX8_byRegisterOffset 35 = .ok (.getfield 23, 3) := by decide +kernel
theorem dX8_byRegisterOffset_38 : decode cX8_byRegisterOffset 38 = .ok (.iload_n 2, 1) := by decide +kernel
theorem dX8_byRegisterOffset_39 : decode cX8_byRegisterOffset 39 = .ok (.iconst 3, 1) := by decide +kernel
theorem dX8_byRegisterOffset_40 : decode cX8_byRegisterOffset 40 = .ok (.if_icmp .lt 7, 3) := by decide +kernel
theorem dX8_byRegisterOffset_43 : decode cX8_byRegisterOffset 43 = .ok (.iconst 1, 1) := by decide +kernel
theorem dX8_byRegisterOffset_44 : decode cX8_byRegisterOffset 44 = .ok (.goto 4, 3) := by decide +kernel
theorem dX8_byRegisterOffset_47 : decode cX8_byRegisterOffset 47 = .ok (.iconst 0, 1) := by decide +kernel
theorem dX8_byRegisterOffset_48 : decode cX8_byRegisterOffset 48 = .ok (.getstatic 147, 3) := by decide +kernel
theorem dX8_byRegisterOffset_51 : decode cX8_byRegisterOffset 51 = .ok (.iload_n 2, 1) := by decide +kernel
theorem dX8_byRegisterOffset_52 : decode cX8_byRegisterOffset 52 = .ok (.iaload, 1) := by decide +kernel
theorem dX8_byRegisterOffset_53 : decode cX8_byRegisterOffset 53 = .ok (.iload_n 1, 1) := by decide +kernel
theorem dX8_byRegisterOffset_54 : decode cX8_byRegisterOffset 54 = .ok (.iconst 0, 1) := by decide +kernel
theorem dX8_byRegisterOffset_55 : decode cX8_byRegisterOffset 55 = .ok (.invokestatic 80, 3) := by decide +kernel
theorem dX8_byRegisterOffset_58 : decode cX8_byRegisterOffset 58 = .ok (.iload_n 3, 1) := by decide +kernel
theorem dX8_byRegisterOffset_59 : decode cX8_byRegisterOffset 59 = .ok (.invokevirtual 141, 3) := by decide +kernel
theorem dX8_byRegisterOffset_62 : decode cX8_byRegisterOffset 62 = .ok (.ireturn, 1) := by decide +kernel
theorem dX8_byNumberOffset_0 : decode cX8_byNumberOffset 0 = .ok (.aload_n 0, 1) := by decide +kernel
theorem dX8_byNumberOffset_1 : decode cX8_byNumberOffset 1 = .ok (.getfield 9, 3) := by decide +kernel
theorem dX8_byNumberOffset_4 : decode cX8_byNumberOffset 4 = .ok (.iload_n 1, 1) := by decide +kernel
theorem dX8_byNumberOffset_5 : decode cX8_byNumberOffset 5 = .ok (.iconst 3, 1) := by decide +kernel
theorem dX8_byNumberOffset_6 : decode cX8_byNumberOffset 6 = .ok (.invokestatic 80, 3) := by decide +kernel
theorem dX8_byNumberOffset_9 : decode cX8_byNumberOffset 9 = .ok (.invokevirtual 83, 3) := by decide +kernel
theorem dX8_byNumberOffset_12 : decode cX8_byNumberOffset 12 = .ok (.istore_n 2, 1) := by decide +kernel
theorem dX8_byNumberOffset_13 : decode cX8_byNumberOffset 13 = .ok (.iload_n 1, 1) := by decide +kernel
theorem dX8_byNumberOffset_14 : decode cX8_byNumberOffset 14 = .ok (.bipush 6, 2) := by decide +kernel
theorem dX8_byNumberOffset_16 : decode cX8_byNumberOffset 16 = .ok (.invokestatic 88, 3) := by decide +kernel
theorem dX8_byNumberOffset_19 : decode cX8_byNumberOffset 19 = .ok (.istore_n 3, 1) := by decide +kernel
theorem dX8_byNumberOffset_20 : decode cX8_byNumberOffset 20 = .ok (.iload_n 1, 1) := by decide +kernel
theorem dX8_byNumberOffset_21 : decode cX8_byNumberOffset 21 = .ok (.iconst 0, 1) := by decide +kernel
theorem dX8_byNumberOffset_22 : decode cX8_byNumberOffset 22 = .ok (.invokestatic 80, 3) := by decide +kernel
theorem dX8_byNumberOffset_25 : decode cX8_byNumberOffset 25 = .ok (.istore 4, 2) := by decide +kernel
theorem dX8_byNumberOffset_27 : decode cX8_byNumberOffset 27 = .ok (.iload_n 1, 1) := by decide +kernel
theorem dX8_byNumberOffset_28 : decode cX8_byNumberOffset 28 = .ok (.bipush 11, 2) := by decide +kernel
theorem dX8_byNumberOffset_30 : decode cX8_byNumberOffset 30 = .ok (.invokestatic 43, 3) := by decide +kernel
theorem dX8_byNumberOffset_33 : decode cX8_byNumberOffset 33 = .ok (.istore 5, 2) := by decide +kernel
theorem dX8_byNumberOffset_35 : decode cX8_byNumberOffset 35 = .ok (.iload_n 1, 1) := by decide +kernel
theorem dX8_byNumberOffset_36 : decode cX8_byNumberOffset 36 = .ok (.bipush 12, 2) := by decide +kernel
theorem dX8_byNumberOffset_38 : decode cX8_byNumberOffset 38 = .ok (.iushr, 1) := by decide +kernel
theorem dX8_byNumberOffset_39 : decode cX8_byNumberOffset 39 = .ok (.lookupswitch 59 #[(6, 25), (7, 43)], 25) := by decide +kernel
theorem dX8_byNumberOffset_64 : decode cX8_byNumberOffset 64 = .ok (.aload_n 0, 1) := by decide +kernel
theorem dX8_byNumberOffset_65 : decode cX8_byNumberOffset 65 = .ok (.getfield 23, 3) := by decide +kernel
theorem dX8_byNumberOffset_68 : decode cX8_byNumberOffset 68 = .ok (.iload 5, 2) := by decide +kernel
theorem dX8_byNumberOffset_70 : decode cX8_byNumberOffset 70 = .ok (.iconst 0, 1) := by decide +kernel
theorem dX8_byNumberOffset_71 : decode cX8_byNumberOffset 71 = .ok (.iload 4, 2) := by decide +kernel
theorem dX8_byNumberOffset_73 : decode cX8_byNumberOffset 73 = .ok (.iload_n 2, 1) := by decide +kernel
theorem dX8_byNumberOffset_74 : decode cX8_byNumberOffset 74 = .ok (.iconst 4, 1) := by decide +kernel
theorem dX8_byNumberOffset_75 : decode cX8_byNumberOffset 75 = .ok (.iload_n 3, 1) := by decide +kernel
theorem dX8_byNumberOffset_76 : decode cX8_byNumberOffset 76 = .ok (.imul, 1) := by decide +kernel
theorem dX8_byNumberOffset_77 : decode cX8_byNumberOffset 77 = .ok (.iadd, 1) := by decide +kernel
theorem dX8_byNumberOffset_78 : decode cX8_byNumberOffset 78 = .ok (.invokevirtual 141, 3) := by decide +kernel
theorem dX8_byNumberOffset_81 : decode cX8_byNumberOffset 81 = .ok (.ireturn, 1) := by decide +kernel
theorem dX8_byNumberOffset_82 : decode cX8_byNumberOffset 82 = .ok (.aload_n 0, 1) := by decide +kernel
theorem dX8_byNumberOffset_83 : decode cX8_byNumberOffset 83 = .ok (.getfield 23, 3) := by decide +kernel
theorem dX8_byNumberOffset_86 : decode cX8_byNumberOffset 86 = .ok (.iload 5, 2) := by decide +kernel
theorem dX8_byNumberOffset_88 : decode cX8_byNumberOffset 88 = .ok (.iconst 1, 1) := by decide +kernel
theorem dX8_byNumberOffset_89 : decode cX8_byNumberOffset 89 = .ok (.iload 4, 2) := by decide +kernel
theorem dX8_byNumberOffset_91 : decode cX8_byNumberOffset 91 = .ok (.iload_n 2, 1) := by decide +kernel
theorem dX8_byNumberOffset_92 : decode cX8_byNumberOffset 92 = .ok (.iload_n 3, 1) := by decide +kernel
theorem dX8_byNumberOffset_93 : decode cX8_byNumberOffset 93 = .ok (.iadd, 1) := by decide +kernel
theorem dX8_byNumberOffset_94 : decode cX8_byNumberOffset 94 = .ok (.invokevirtual 141, 3) := by decide +kernel
theorem dX8_byNumberOffset_97 : decode cX8_byNumberOffset 97 = .ok (.ireturn, 1) := by decide +kernel
theorem dX8_byNumberOffset_98 : decode cX8_byNumberOffset 98 = .ok (.aload_n 0, 1) := by decide +kernel
theorem dX8_byNumberOffset_99 : decode cX8_byNumberOffset 99 = .ok (.getfield 23, 3) := by decide +kernel
theorem dX8_byNumberOffset_102 : decode cX8_byNumberOffset 102 = .ok (.iload 5, 2) := by decide +kernel
theorem dX8_byNumberOffset_104 : decode cX8_byNumberOffset 104 = .ok (.iconst 2, 1) := by decide +kernel
theorem dX8_byNumberOffset_105 : decode cX8_byNumberOffset 105 = .ok (.iload 4, 2) := by decide +kernel
theorem dX8_byNumberOffset_107 : decode cX8_byNumberOffset 107 = .ok (.iload_n 2, 1) := by decide +kernel
theorem dX8_byNumberOffset_108 : decode cX8_byNumberOffset 108 = .ok (.iconst 2, 1) := by decide +kernel
theorem dX8_byNumberOffset_109 : decode cX8_byNumberOffset 109 = .ok (.iload_n 3, 1) := by decide +kernel
theorem dX8_byNumberOffset_110 : decode cX8_byNumberOffset 110 = .ok (.imul, 1) := by decide +kernel
theorem dX8_byNumberOffset_111 : decode cX8_byNumberOffset 111 = .ok (.iadd, 1) := by decide +kernel
theorem dX8_byNumberOffset_112 : decode cX8_byNumberOffset 112 = .ok (.invokevirtual 141, 3) := by decide +kernel
theorem dX8_byNumberOffset_115 : decode cX8_byNumberOffset 115 = .ok (.ireturn, 1) := by decide +kernel
theorem dX8_besideSp_0 : decode cX8_besideSp 0 = .ok (.aload_n 0, 1) := by decide +kernel
theorem dX8_besideSp_1 : decode cX8_besideSp 1 = .ok (.getfield 9, 3) := by decide +kernel
theorem dX8_besideSp_4 : decode cX8_besideSp 4 = .ok (.bipush 13, 2) := by decide +kernel
theorem dX8_besideSp_6 : decode cX8_besideSp 6 = .ok (.invokevirtual 83, 3) := by decide +kernel
theorem dX8_besideSp_9 : decode cX8_besideSp 9 = .ok (.iconst 4, 1) := by decide +kernel
theorem dX8_besideSp_10 : decode cX8_besideSp 10 = .ok (.iload_n 1, 1) := by decide +kernel
theorem dX8_besideSp_11 : decode cX8_besideSp 11 = .ok (.sipush 255, 3) := by decide +kernel
theorem dX8_besideSp_14 : decode cX8_besideSp 14 = .ok (.iand, 1) := by decide +kernel
theorem dX8_besideSp_15 : decode cX8_besideSp 15 = .ok (.imul, 1) := by decide +kernel
theorem dX8_besideSp_16 : decode cX8_besideSp 16 = .ok (.iadd, 1) := by decide +kernel
theorem dX8_besideSp_17 : decode cX8_besideSp 17 = .ok (.istore_n 2, 1) := by decide +kernel
theorem dX8_besideSp_18 : decode cX8_besideSp 18 = .ok (.aload_n 0, 1) := by decide +kernel
theorem dX8_besideSp_19 : decode cX8_besideSp 19 = .ok (.getfield 23, 3) := by decide +kernel
theorem dX8_besideSp_22 : decode cX8_besideSp 22 = .ok (.iload_n 1, 1) := by decide +kernel
theorem dX8_besideSp_23 : decode cX8_besideSp 23 = .ok (.bipush 11, 2) := by decide +kernel
theorem dX8_besideSp_25 : decode cX8_besideSp 25 = .ok (.invokestatic 43, 3) := by decide +kernel
theorem dX8_besideSp_28 : decode cX8_besideSp 28 = .ok (.iconst 0, 1) := by decide +kernel
theorem dX8_besideSp_29 : decode cX8_besideSp 29 = .ok (.iload_n 1, 1) := by decide +kernel
theorem dX8_besideSp_30 : decode cX8_besideSp 30 = .ok (.bipush 8, 2) := by decide +kernel
theorem dX8_besideSp_32 : decode cX8_besideSp 32 = .ok (.invokestatic 80, 3) := by decide +kernel
theorem dX8_besideSp_35 : decode cX8_besideSp 35 = .ok (.iload_n 2, 1) := by decide +kernel
theorem dX8_besideSp_36 : decode cX8_besideSp 36 = .ok (.invokevirtual 141, 3) := by decide +kernel
theorem dX8_besideSp_39 : decode cX8_besideSp 39 = .ok (.ireturn, 1) := by decide +kernel
theorem dX8_addressOf_0 : decode cX8_addressOf 0 = .ok (.iload_n 1, 1) := by decide +kernel
theorem dX8_addressOf_1 : decode cX8_addressOf 1 = .ok (.bipush 11, 2) := by decide +kernel
theorem dX8_addressOf_3 : decode cX8_addressOf 3 = .ok (.invokestatic 43, 3) := by decide +kernel
theorem dX8_addressOf_6 : decode cX8_addressOf 6 = .ok (.ifCond .eq 15, 3) := by decide +kernel
theorem dX8_addressOf_9 : decode cX8_addressOf 9 = .ok (.aload_n 0, 1) := by decide +kernel
theorem dX8_addressOf_10 : decode cX8_addressOf 10 = .ok (.getfield 9, 3) := by decide +kernel
theorem dX8_addressOf_13 : decode cX8_addressOf 13 = .ok (.bipush 13, 2) := by decide +kernel
theorem dX8_addressOf_15 : decode cX8_addressOf 15 = .ok (.invokevirtual 83, 3) := by decide +kernel
theorem dX8_addressOf_18 : decode cX8_addressOf 18 = .ok (.goto 7, 3) := by decide +kernel
theorem dX8_addressOf_21 : decode cX8_addressOf 21 = .ok (.aload_n 0, 1) := by decide +kernel
theorem dX8_addressOf_22 : decode cX8_addressOf 22 = .ok (.invokevirtual 136, 3) := by decide +kernel
theorem dX8_addressOf_25 : decode cX8_addressOf 25 = .ok (.istore_n 2, 1) := by decide +kernel
theorem dX8_addressOf_26 : decode cX8_addressOf 26 = .ok (.aload_n 0, 1) := by decide +kernel
theorem dX8_addressOf_27 : decode cX8_addressOf 27 = .ok (.getfield 9, 3) := by decide +kernel
theorem dX8_addressOf_30 : decode cX8_addressOf 30 = .ok (.iload_n 1, 1) := by decide +kernel
theorem dX8_addressOf_31 : decode cX8_addressOf 31 = .ok (.bipush 8, 2) := by decide +kernel
theorem dX8_addressOf_33 : decode cX8_addressOf 33 = .ok (.invokestatic 80, 3) := by decide +kernel
theorem dX8_addressOf_36 : decode cX8_addressOf 36 = .ok (.iload_n 2, 1) := by decide +kernel
theorem dX8_addressOf_37 : decode cX8_addressOf 37 = .ok (.iconst 4, 1) := by decide +kernel
theorem dX8_addressOf_38 : decode cX8_addressOf 38 = .ok (.iload_n 1, 1) := by decide +kernel
theorem dX8_addressOf_39 : decode cX8_addressOf 39 = .ok (.sipush 255, 3) := by decide +kernel
theorem dX8_addressOf_42 : decode cX8_addressOf 42 = .ok (.iand, 1) := by decide +kernel
theorem dX8_addressOf_43 : decode cX8_addressOf 43 = .ok (.imul, 1) := by decide +kernel
theorem dX8_addressOf_44 : decode cX8_addressOf 44 = .ok (.iadd, 1) := by decide +kernel
theorem dX8_addressOf_45 : decode cX8_addressOf 45 = .ok (.invokevirtual 116, 3) := by decide +kernel
theorem dX8_addressOf_48 : decode cX8_addressOf 48 = .ok (.iconst (-1), 1) := by decide +kernel
theorem dX8_addressOf_49 : decode cX8_addressOf 49 = .ok (.ireturn, 1) := by decide +kernel
theorem dX8_stack_0 : decode cX8_stack 0 = .ok (.iload_n 1, 1) := by decide +kernel
theorem dX8_stack_1 : decode cX8_stack 1 = .ok (.bipush 8, 2) := by decide +kernel
theorem dX8_stack_3 : decode cX8_stack 3 = .ok (.iushr, 1) := by decide +kernel
theorem dX8_stack_4 : decode cX8_stack 4 = .ok (.sipush 176, 3) := by decide +kernel
theorem dX8_stack_7 : decode cX8_stack 7 = .ok (.if_icmp .ne 46, 3) := by decide +kernel
theorem dX8_stack_10 : decode cX8_stack 10 = .ok (.iconst 4, 1) := by decide +kernel
theorem dX8_stack_11 : decode cX8_stack 11 = .ok (.iload_n 1, 1) := by decide +kernel
theorem dX8_stack_12 : decode cX8_stack 12 = .ok (.bipush 127, 2) := by decide +kernel
theorem dX8_stack_14 : decode cX8_stack 14 = .ok (.iand, 1) := by decide +kernel
theorem dX8_stack_15 : decode cX8_stack 15 = .ok (.imul, 1) := by decide +kernel
theorem dX8_stack_16 : decode cX8_stack 16 = .ok (.istore_n 2, 1) := by decide +kernel
theorem dX8_stack_17 : decode cX8_stack 17 = .ok (.aload_n 0, 1) := by decide +kernel
theorem dX8_stack_18 : decode cX8_stack 18 = .ok (.getfield 9, 3) := by decide +kernel
theorem dX8_stack_21 : decode cX8_stack 21 = .ok (.bipush 13, 2) := by decide +kernel
theorem dX8_stack_23 : decode cX8_stack 23 = .ok (.aload_n 0, 1) := by decide +kernel
theorem dX8_stack_24 : decode cX8_stack 24 = .ok (.getfield 9, 3) := by decide +kernel
theorem dX8_stack_27 : decode cX8_stack 27 = .ok (.bipush 13, 2) := by decide +kernel
theorem dX8_stack_29 : decode cX8_stack 29 = .ok (.invokevirtual 83, 3) := by decide +kernel
theorem dX8_stack_32 : decode cX8_stack 32 = .ok (.iload_n 1, 1) := by decide +kernel
theorem dX8_stack_33 : decode cX8_stack 33 = .ok (.bipush 7, 2) := by decide +kernel
theorem dX8_stack_35 : decode cX8_stack 35 = .ok (.invokestatic 43, 3) := by decide +kernel
theorem dX8_stack_38 : decode cX8_stack 38 = .ok (.ifCond .eq 8, 3) := by decide +kernel
theorem dX8_stack_41 : decode cX8_stack 41 = .ok (.iload_n 2, 1) := by decide +kernel
theorem dX8_stack_42 : decode cX8_stack 42 = .ok (.ineg, 1) := by decide +kernel
theorem dX8_stack_43 : decode cX8_stack 43 = .ok (.goto 4, 3) := by decide +kernel
theorem dX8_stack_46 : decode cX8_stack 46 = .ok (.iload_n 2, 1) := by decide +kernel
theorem dX8_stack_47 : decode cX8_stack 47 = .ok (.iadd, 1) := by decide +kernel
theorem dX8_stack_48 : decode cX8_stack 48 = .ok (.invokevirtual 116, 3) := by decide +kernel
theorem dX8_stack_51 : decode cX8_stack 51 = .ok (.iconst (-1), 1) := by decide +kernel
theorem dX8_stack_52 : decode cX8_stack 52 = .ok (.ireturn, 1) := by decide +kernel
theorem dX8_stack_53 : decode cX8_stack 53 = .ok (.iload_n 1, 1) := by decide +kernel
theorem dX8_stack_54 : decode cX8_stack 54 = .ok (.sipush 255, 3) := by decide +kernel
theorem dX8_stack_57 : decode cX8_stack 57 = .ok (.iand, 1) := by decide +kernel
theorem dX8_stack_58 : decode cX8_stack 58 = .ok (.istore_n 2, 1) := by decide +kernel
theorem dX8_stack_59 : decode cX8_stack 59 = .ok (.iload_n 1, 1) := by decide +kernel
theorem dX8_stack_60 : decode cX8_stack 60 = .ok (.bipush 8, 2) := by decide +kernel
theorem dX8_stack_62 : decode cX8_stack 62 = .ok (.invokestatic 43, 3) := by decide +kernel
theorem dX8_stack_65 : decode cX8_stack 65 = .ok (.istore_n 3, 1) := by decide +kernel
theorem dX8_stack_66 : decode cX8_stack 66 = .ok (.iload_n 1, 1) := by decide +kernel
theorem dX8_stack_67 : decode cX8_stack 67 = .ok (.bipush 9, 2) := by decide +kernel
theorem dX8_stack_69 : decode cX8_stack 69 = .ok (.iushr, 1) := by decide +kernel
theorem dX8_stack_70 : decode cX8_stack 70 = .ok (.lookupswitch 73 #[(90, 26), (94, 50)], 26) := by decide +kernel
theorem dX8_stack_96 : decode cX8_stack 96 = .ok (.aload_n 0, 1) := by decide +kernel
theorem dX8_stack_97 : decode cX8_stack 97 = .ok (.getfield 23, 3) := by decide +kernel
theorem dX8_stack_100 : decode cX8_stack 100 = .ok (.ldc 151, 2) := by decide +kernel
theorem dX8_stack_102 : decode cX8_stack 102 = .ok (.iload_n 2, 1) := by decide +kernel
theorem dX8_stack_103 : decode cX8_stack 103 = .ok (.ior, 1) := by decide +kernel
theorem dX8_stack_104 : decode cX8_stack 104 = .ok (.iload_n 3, 1) := by decide +kernel
theorem dX8_stack_105 : decode cX8_stack 105 = .ok (.ifCond .eq 9, 3) := by decide +kernel
theorem dX8_stack_108 : decode cX8_stack 108 = .ok (.sipush 16384, 3) := by decide +kernel
theorem dX8_stack_111 : decode cX8_stack 111 = .ok (.goto 4, 3) := by decide +kernel
theorem dX8_stack_114 : decode cX8_stack 114 = .ok (.iconst 0, 1) := by decide +kernel
theorem dX8_stack_115 : decode cX8_stack 115 = .ok (.ior, 1) := by decide +kernel
theorem dX8_stack_116 : decode cX8_stack 116 = .ok (.invokevirtual 152, 3) := by decide +kernel
theorem dX8_stack_119 : decode cX8_stack 119 = .ok (.ireturn, 1) := by decide +kernel
theorem dX8_stack_120 : decode cX8_stack 120 = .ok (.aload_n 0, 1) := by decide +kernel
theorem dX8_stack_121 : decode cX8_stack 121 = .ok (.getfield 23, 3) := by decide +kernel
theorem dX8_stack_124 : decode cX8_stack 124 = .ok (.ldc 153, 2) := by decide +kernel
theorem dX8_stack_126 : decode cX8_stack 126 = .ok (.iload_n 2, 1) := by decide +kernel
theorem dX8_stack_127 : decode cX8_stack 127 = .ok (.ior, 1) := by decide +kernel
theorem dX8_stack_128 : decode cX8_stack 128 = .ok (.iload_n 3, 1) := by decide +kernel
theorem dX8_stack_129 : decode cX8_stack 129 = .ok (.ifCond .eq 8, 3) := by decide +kernel
theorem dX8_stack_132 : decode cX8_stack 132 = .ok (.ldc 154, 2) := by decide +kernel
theorem dX8_stack_134 : decode cX8_stack 134 = .ok (.goto 4, 3) := by decide +kernel
theorem dX8_stack_137 : decode cX8_stack 137 = .ok (.iconst 0, 1) := by decide +kernel
theorem dX8_stack_138 : decode cX8_stack 138 = .ok (.ior, 1) := by decide +kernel
theorem dX8_stack_139 : decode cX8_stack 139 = .ok (.invokevirtual 152, 3) := by decide +kernel
theorem dX8_stack_142 : decode cX8_stack 142 = .ok (.ireturn, 1) := by decide +kernel
theorem dX8_stack_143 : decode cX8_stack 143 = .ok (.iconst 0, 1) := by decide +kernel
theorem dX8_stack_144 : decode cX8_stack 144 = .ok (.ireturn, 1) := by decide +kernel
theorem dX8_many_0 : decode cX8_many 0 = .ok (.iload_n 1, 1) := by decide +kernel
theorem dX8_many_1 : decode cX8_many 1 = .ok (.bipush 11, 2) := by decide +kernel
theorem dX8_many_3 : decode cX8_many 3 = .ok (.invokestatic 43, 3) := by decide +kernel
theorem dX8_many_6 : decode cX8_many 6 = .ok (.ifCond .eq 8, 3) := by decide +kernel
theorem dX8_many_9 : decode cX8_many 9 = .ok (.ldc 155, 2) := by decide +kernel
theorem dX8_many_11 : decode cX8_many 11 = .ok (.goto 5, 3) := by decide +kernel
theorem dX8_many_14 : decode cX8_many 14 = .ok (.ldc 156, 2) := by decide +kernel
theorem dX8_many_16 : decode cX8_many 16 = .ok (.istore_n 2, 1) := by decide +kernel
theorem dX8_many_17 : decode cX8_many 17 = .ok (.aload_n 0, 1) := by decide +kernel
theorem dX8_many_18 : decode cX8_many 18 = .ok (.getfield 23, 3) := by decide +kernel
theorem dX8_many_21 : decode cX8_many 21 = .ok (.iload_n 2, 1) := by decide +kernel
theorem dX8_many_22 : decode cX8_many 22 = .ok (.iload_n 1, 1) := by decide +kernel
theorem dX8_many_23 : decode cX8_many 23 = .ok (.bipush 8, 2) := by decide +kernel
theorem dX8_many_25 : decode cX8_many 25 = .ok (.invokestatic 80, 3) := by decide +kernel
theorem dX8_many_28 : decode cX8_many 28 = .ok (.bipush 16, 2) := by decide +kernel
theorem dX8_many_30 : decode cX8_many 30 = .ok (.ishl, 1) := by decide +kernel
theorem dX8_many_31 : decode cX8_many 31 = .ok (.ior, 1) := by decide +kernel
theorem dX8_many_32 : decode cX8_many 32 = .ok (.iload_n 1, 1) := by decide +kernel
theorem dX8_many_33 : decode cX8_many 33 = .ok (.sipush 255, 3) := by decide +kernel
theorem dX8_many_36 : decode cX8_many 36 = .ok (.iand, 1) := by decide +kernel
theorem dX8_many_37 : decode cX8_many 37 = .ok (.ior, 1) := by decide +kernel
theorem dX8_many_38 : decode cX8_many 38 = .ok (.invokevirtual 152, 3) := by decide +kernel
theorem dX8_many_41 : decode cX8_many 41 = .ok (.ireturn, 1) := by decide +kernel
theorem dX8_branchByCondition_0 : decode cX8_branchByCondition 0 = .ok (.iload_n 1, 1) := by decide +kernel
theorem dX8_branchByCondition_1 : decode cX8_branchByCondition 1 = .ok (.bipush 8, 2) := by decide +kernel
theorem dX8_branchByCondition_3 : decode cX8_branchByCondition 3 = .ok (.invokestatic 27, 3) := by decide +kernel
theorem dX8_branchByCondition_6 : decode cX8_branchByCondition 6 = .ok (.istore_n 2, 1) := by decide +kernel
theorem dX8_branchByCondition_7 : decode cX8_branchByCondition 7 = .ok (.iload_n 2, 1) := by decide +kernel
theorem dX8_branchByCondition_8 : decode cX8_branchByCondition 8 = .ok (.bipush 14, 2) := by decide +kernel
theorem dX8_branchByCondition_10 : decode cX8_branchByCondition 10 = .ok (.if_icmp .ne 5, 3) := by decide +kernel
theorem dX8_branchByCondition_13 : decode cX8_branchByCondition 13 = .ok (.iconst 0, 1) := by decide +kernel
theorem dX8_branchByCondition_14 : decode cX8_branchByCondition 14 = .ok (.ireturn, 1) := by decide +kernel
theorem dX8_branchByCondition_15 : decode cX8_branchByCondition 15 = .ok (.iload_n 2, 1) := by decide +kernel
theorem dX8_branchByCondition_16 : decode cX8_branchByCondition 16 = .ok (.bipush 15, 2) := by decide +kernel
theorem dX8_branchByCondition_18 : decode cX8_branchByCondition 18 = .ok (.if_icmp .ne 5, 3) := by decide +kernel
theorem dX8_branchByCondition_21 : decode cX8_branchByCondition 21 = .ok (.iconst 1, 1) := by decide +kernel
theorem dX8_branchByCondition_22 : decode cX8_branchByCondition 22 = .ok (.ireturn, 1) := by decide +kernel
theorem dX8_branchByCondition_23 : decode cX8_branchByCondition 23 = .ok (.aload_n 0, 1) := by decide +kernel
theorem dX8_branchByCondition_24 : decode cX8_branchByCondition 24 = .ok (.getfield 9, 3) := by decide +kernel
theorem dX8_branchByCondition_27 : decode cX8_branchByCondition 27 = .ok (.iload_n 2, 1) := by decide +kernel
theorem dX8_branchByCondition_28 : decode cX8_branchByCondition 28 = .ok (.invokevirtual 157, 3) := by decide +kernel
theorem dX8_branchByCondition_31 : decode cX8_branchByCondition 31 = .ok (.ifCond .eq 24, 3) := by decide +kernel
theorem dX8_branchByCondition_34 : decode cX8_branchByCondition 34 = .ok (.aload_n 0, 1) := by decide +kernel
theorem dX8_branchByCondition_35 : decode cX8_branchByCondition 35 = .ok (.getfield 9, 3) := by decide +kernel
theorem dX8_branchByCondition_38 : decode cX8_branchByCondition 38 = .ok (.aload_n 0, 1) := by decide +kernel
theorem dX8_branchByCondition_39 : decode cX8_branchByCondition 39 = .ok (.getfield 9, 3) := by decide +kernel
theorem dX8_branchByCondition_42 : decode cX8_branchByCondition 42 = .ok (.bipush 15, 2) := by decide +kernel
theorem dX8_branchByCondition_44 : decode cX8_branchByCondition 44 = .ok (.invokevirtual 83, 3) := by decide +kernel
theorem dX8_branchByCondition_47 : decode cX8_branchByCondition 47 = .ok (.iconst 2, 1) := by decide +kernel
theorem dX8_branchByCondition_48 : decode cX8_branchByCondition 48 = .ok (.iload_n 1, 1) := by decide +kernel
theorem dX8_branchByCondition_49 : decode cX8_branchByCondition 49 = .ok (.i2b, 1) := by decide +kernel
theorem dX8_branchByCondition_50 : decode cX8_branchByCondition 50 = .ok (.imul, 1) := by decide +kernel
theorem dX8_branchByCondition_51 : decode cX8_branchByCondition 51 = .ok (.iadd, 1) := by decide +kernel
theorem dX8_branchByCondition_52 : decode cX8_branchByCondition 52 = .ok (.invokevirtual 161, 3) := by decide +kernel
theorem dX8_branchByCondition_55 : decode cX8_branchByCondition 55 = .ok (.iconst (-1), 1) := by decide +kernel
theorem dX8_branchByCondition_56 : decode cX8_branchByCondition 56 = .ok (.ireturn, 1) := by decide +kernel
theorem dX8_branch_0 : decode cX8_branch 0 = .ok (.iload_n 1, 1) := by decide +kernel
theorem dX8_branch_1 : decode cX8_branch 1 = .ok (.sipush 2047, 3) := by decide +kernel
theorem dX8_branch_4 : decode cX8_branch 4 = .ok (.iand, 1) := by decide +kernel
theorem dX8_branch_5 : decode cX8_branch 5 = .ok (.istore_n 2, 1) := by decide +kernel
theorem dX8_branch_6 : decode cX8_branch 6 = .ok (.iload_n 1, 1) := by decide +kernel
theorem dX8_branch_7 : decode cX8_branch 7 = .ok (.bipush 21, 2) := by decide +kernel
theorem dX8_branch_9 : decode cX8_branch 9 = .ok (.ishl, 1) := by decide +kernel
theorem dX8_branch_10 : decode cX8_branch 10 = .ok (.bipush 21, 2) := by decide +kernel
theorem dX8_branch_12 : decode cX8_branch 12 = .ok (.ishr, 1) := by decide +kernel
theorem dX8_branch_13 : decode cX8_branch 13 = .ok (.istore_n 3, 1) := by decide +kernel
theorem dX8_branch_14 : decode cX8_branch 14 = .ok (.iload_n 1, 1) := by decide +kernel
theorem dX8_branch_15 : decode cX8_branch 15 = .ok (.bipush 11, 2) := by decide +kernel
theorem dX8_branch_17 : decode cX8_branch 17 = .ok (.iushr, 1) := by decide +kernel
theorem dX8_branch_18 : decode cX8_branch 18 = .ok (.tableswitch 118 28 31 #[30, 118, 52, 78], 30) := by decide +kernel
theorem dX8_branch_48 : decode cX8_branch 48 = .ok (.aload_n 0, 1) := by decide +kernel
theorem dX8_branch_49 : decode cX8_branch 49 = .ok (.getfield 9, 3) := by decide +kernel
theorem dX8_branch_52 : decode cX8_branch 52 = .ok (.aload_n 0, 1) := by decide +kernel
theorem dX8_branch_53 : decode cX8_branch 53 = .ok (.getfield 9, 3) := by decide +kernel
theorem dX8_branch_56 : decode cX8_branch 56 = .ok (.bipush 15, 2) := by decide +kernel
theorem dX8_branch_58 : decode cX8_branch 58 = .ok (.invokevirtual 83, 3) := by decide +kernel
theorem dX8_branch_61 : decode cX8_branch 61 = .ok (.iconst 2, 1) := by decide +kernel
theorem dX8_branch_62 : decode cX8_branch 62 = .ok (.iload_n 3, 1) := by decide +kernel
theorem dX8_branch_63 : decode cX8_branch 63 = .ok (.imul, 1) := by decide +kernel
theorem dX8_branch_64 : decode cX8_branch 64 = .ok (.iadd, 1) := by decide +kernel
theorem dX8_branch_65 : decode cX8_branch 65 = .ok (.invokevirtual 161, 3) := by decide +kernel
theorem dX8_branch_68 : decode cX8_branch 68 = .ok (.iconst (-1), 1) := by decide +kernel
theorem dX8_branch_69 : decode cX8_branch 69 = .ok (.ireturn, 1) := by decide +kernel
theorem dX8_branch_70 : decode cX8_branch 70 = .ok (.aload_n 0, 1) := by decide +kernel
theorem dX8_branch_71 : decode cX8_branch 71 = .ok (.getfield 9, 3) := by decide +kernel
theorem dX8_branch_74 : decode cX8_branch 74 = .ok (.bipush 14, 2) := by decide +kernel
theorem dX8_branch_76 : decode cX8_branch 76 = .ok (.aload_n 0, 1) := by decide +kernel
theorem dX8_branch_77 : decode cX8_branch 77 = .ok (.getfield 9, 3) := by decide +kernel
theorem dX8_branch_80 : decode cX8_branch 80 = .ok (.bipush 15, 2) := by decide +kernel
theorem dX8_branch_82 : decode cX8_branch 82 = .ok (.invokevirtual 83, 3) := by decide +kernel
theorem dX8_branch_85 : decode cX8_branch 85 = .ok (.sipush 4096, 3) := by decide +kernel
theorem dX8_branch_88 : decode cX8_branch 88 = .ok (.iload_n 3, 1) := by decide +kernel
theorem dX8_branch_89 : decode cX8_branch 89 = .ok (.imul, 1) := by decide +kernel
theorem dX8_branch_90 : decode cX8_branch 90 = .ok (.iadd, 1) := by decide +kernel
theorem dX8_branch_91 : decode cX8_branch 91 = .ok (.invokevirtual 116, 3) := by decide +kernel
theorem dX8_branch_94 : decode cX8_branch 94 = .ok (.iconst (-1), 1) := by decide +kernel
theorem dX8_branch_95 : decode cX8_branch 95 = .ok (.ireturn, 1) := by decide +kernel
theorem dX8_branch_96 : decode cX8_branch 96 = .ok (.aload_n 0, 1) := by decide +kernel
theorem dX8_branch_97 : decode cX8_branch 97 = .ok (.getfield 9, 3) := by decide +kernel
theorem dX8_branch_100 : decode cX8_branch 100 = .ok (.aload_n 0, 1) := by decide +kernel
theorem dX8_branch_101 : decode cX8_branch 101 = .ok (.getfield 9, 3) := by decide +kernel
theorem dX8_branch_104 : decode cX8_branch 104 = .ok (.bipush 14, 2) := by decide +kernel
theorem dX8_branch_106 : decode cX8_branch 106 = .ok (.invokevirtual 83, 3) := by decide +kernel
theorem dX8_branch_109 : decode cX8_branch 109 = .ok (.iconst 2, 1) := by decide +kernel
theorem dX8_branch_110 : decode cX8_branch 110 = .ok (.iload_n 2, 1) := by decide +kernel
theorem dX8_branch_111 : decode cX8_branch 111 = .ok (.imul, 1) := by decide +kernel
theorem dX8_branch_112 : decode cX8_branch 112 = .ok (.iadd, 1) := by decide +kernel
theorem dX8_branch_113 : decode cX8_branch 113 = .ok (.invokevirtual 161, 3) := by decide +kernel
theorem dX8_branch_116 : decode cX8_branch 116 = .ok (.aload_n 0, 1) := by decide +kernel
theorem dX8_branch_117 : decode cX8_branch 117 = .ok (.getfield 9, 3) := by decide +kernel
theorem dX8_branch_120 : decode cX8_branch 120 = .ok (.bipush 14, 2) := by decide +kernel
theorem dX8_branch_122 : decode cX8_branch 122 = .ok (.aload_n 0, 1) := by decide +kernel
theorem dX8_branch_123 : decode cX8_branch 123 = .ok (.getfield 9, 3) := by decide +kernel
theorem dX8_branch_126 : decode cX8_branch 126 = .ok (.invokevirtual 164, 3) := by decide +kernel
theorem dX8_branch_129 : decode cX8_branch 129 = .ok (.iconst 1, 1) := by decide +kernel
theorem dX8_branch_130 : decode cX8_branch 130 = .ok (.ior, 1) := by decide +kernel
theorem dX8_branch_131 : decode cX8_branch 131 = .ok (.invokevirtual 116, 3) := by decide +kernel
theorem dX8_branch_134 : decode cX8_branch 134 = .ok (.iconst (-1), 1) := by decide +kernel
theorem dX8_branch_135 : decode cX8_branch 135 = .ok (.ireturn, 1) := by decide +kernel
theorem dX8_branch_136 : decode cX8_branch 136 = .ok (.iconst 0, 1) := by decide +kernel
theorem dX8_branch_137 : decode cX8_branch 137 = .ok (.ireturn, 1) := by decide +kernel
theorem dX9_init_0 : decode cX9_init 0 = .ok (.aload_n 0, 1) := by decide +kernel
theorem dX9_init_1 : decode cX9_init 1 = .ok (.invokespecial 3, 3) := by decide +kernel
theorem dX9_init_4 : decode cX9_init 4 = .ok (.aload_n 0, 1) := by decide +kernel
theorem dX9_init_5 : decode cX9_init 5 = .ok (.aload_n 1, 1) := by decide +kernel
theorem dX9_init_6 : decode cX9_init 6 = .ok (.putfield 9, 3) := by decide +kernel
theorem dX9_init_9 : decode cX9_init 9 = .ok (.aload_n 0, 1) := by decide +kernel
theorem dX9_init_10 : decode cX9_init 10 = .ok (.aload_n 2, 1) := by decide +kernel
theorem dX9_init_11 : decode cX9_init 11 = .ok (.putfield 15, 3) := by decide +kernel
theorem dX9_init_14 : decode cX9_init 14 = .ok (.return_, 1) := by decide +kernel
theorem dX9_indexed_0 : decode cX9_indexed 0 = .ok (.iload_n 1, 1) := by decide +kernel
theorem dX9_indexed_1 : decode cX9_indexed 1 = .ok (.bipush 16, 2) := by decide +kernel
theorem dX9_indexed_3 : decode cX9_indexed 3 = .ok (.invokestatic 19, 3) := by decide +kernel
theorem dX9_indexed_6 : decode cX9_indexed 6 = .ok (.istore 4, 2) := by decide +kernel
theorem dX9_indexed_8 : decode cX9_indexed 8 = .ok (.aload_n 0, 1) := by decide +kernel
theorem dX9_indexed_9 : decode cX9_indexed 9 = .ok (.getfield 15, 3) := by decide +kernel
theorem dX9_indexed_12 : decode cX9_indexed 12 = .ok (.iload 4, 2) := by decide +kernel
theorem dX9_indexed_14 : decode cX9_indexed 14 = .ok (.invokevirtual 25, 3) := by decide +kernel
theorem dX9_indexed_17 : decode cX9_indexed 17 = .ok (.istore 5, 2) := by decide +kernel
theorem dX9_indexed_19 : decode cX9_indexed 19 = .ok (.iload_n 1, 1) := by decide +kernel
theorem dX9_indexed_20 : decode cX9_indexed 20 = .ok (.bipush 23, 2) := by decide +kernel
theorem dX9_indexed_22 : decode cX9_indexed 22 = .ok (.invokestatic 31, 3) := by decide +kernel
theorem dX9_indexed_25 : decode cX9_indexed 25 = .ok (.ifCond .eq 10, 3) := by decide +kernel
theorem dX9_indexed_28 : decode cX9_indexed 28 = .ok (.iload 5, 2) := by decide +kernel
theorem dX9_indexed_30 : decode cX9_indexed 30 = .ok (.iload_n 3, 1) := by decide +kernel
theorem dX9_indexed_31 : decode cX9_indexed 31 = .ok (.iadd, 1) := by decide +kernel
theorem dX9_indexed_32 : decode cX9_indexed 32 = .ok (.goto 7, 3) := by decide +kernel
theorem dX9_indexed_35 : decode cX9_indexed 35 = .ok (.iload 5, 2) := by decide +kernel
theorem dX9_indexed_37 : decode cX9_indexed 37 = .ok (.iload_n 3, 1) := by decide +kernel
theorem dX9_indexed_38 : decode cX9_indexed 38 = .ok (.isub, 1) := by decide +kernel
theorem dX9_indexed_39 : decode cX9_indexed 39 = .ok (.istore 6, 2) := by decide +kernel
theorem dX9_indexed_41 : decode cX9_indexed 41 = .ok (.iload_n 1, 1) := by decide +kernel
theorem dX9_indexed_42 : decode cX9_indexed 42 = .ok (.bipush 24, 2) := by decide +kernel
theorem dX9_indexed_44 : decode cX9_indexed 44 = .ok (.invokestatic 31, 3) := by decide +kernel
theorem dX9_indexed_47 : decode cX9_indexed 47 = .ok (.istore 7, 2) := by decide +kernel
theorem dX9_indexed_49 : decode cX9_indexed 49 = .ok (.iload 7, 2) := by decide +kernel
theorem dX9_indexed_51 : decode cX9_indexed 51 = .ok (.ifCond .eq 8, 3) := by decide +kernel
theorem dX9_indexed_54 : decode cX9_indexed 54 = .ok (.iload 6, 2) := by decide +kernel
theorem dX9_indexed_56 : decode cX9_indexed 56 = .ok (.goto 5, 3) := by decide +kernel
theorem dX9_indexed_59 : decode cX9_indexed 59 = .ok (.iload 5, 2) := by decide +kernel
theorem dX9_indexed_61 : decode cX9_indexed 61 = .ok (.istore 8, 2) := by decide +kernel
theorem dX9_indexed_63 : decode cX9_indexed 63 = .ok (.aload_n 0, 1) := by decide +kernel
theorem dX9_indexed_64 : decode cX9_indexed 64 = .ok (.getfield 9, 3) := by decide +kernel
theorem dX9_indexed_67 : decode cX9_indexed 67 = .ok (.iload 8, 2) := by decide +kernel
theorem dX9_indexed_69 : decode cX9_indexed 69 = .ok (.invokevirtual 35, 3) := by decide +kernel
theorem dX9_indexed_72 : decode cX9_indexed 72 = .ok (.ifCond .ne 5, 3) := by decide +kernel
theorem dX9_indexed_75 : decode cX9_indexed 75 = .ok (.iconst 3, 1) := by decide +kernel
theorem dX9_indexed_76 : decode cX9_indexed 76 = .ok (.ireturn, 1) := by decide +kernel
theorem dX9_indexed_77 : decode cX9_indexed 77 = .ok (.iload_n 1, 1) := by decide +kernel
theorem dX9_indexed_78 : decode cX9_indexed 78 = .ok (.bipush 12, 2) := by decide +kernel
theorem dX9_indexed_80 : decode cX9_indexed 80 = .ok (.invokestatic 19, 3) := by decide +kernel
theorem dX9_indexed_83 : decode cX9_indexed 83 = .ok (.istore 9, 2) := by decide +kernel
theorem dX9_indexed_85 : decode cX9_indexed 85 = .ok (.iload_n 1, 1) := by decide +kernel
theorem dX9_indexed_86 : decode cX9_indexed 86 = .ok (.bipush 20, 2) := by decide +kernel
theorem dX9_indexed_88 : decode cX9_indexed 88 = .ok (.invokestatic 31, 3) := by decide +kernel
theorem dX9_indexed_91 : decode cX9_indexed 91 = .ok (.istore 10, 2) := by decide +kernel
theorem dX9_indexed_93 : decode cX9_indexed 93 = .ok (.iload 10, 2) := by decide +kernel
theorem dX9_indexed_95 : decode cX9_indexed 95 = .ok (.ifCond .eq 16, 3) := by decide +kernel
theorem dX9_indexed_98 : decode cX9_indexed 98 = .ok (.aload_n 0, 1) := by decide +kernel
theorem dX9_indexed_99 : decode cX9_indexed 99 = .ok (.getfield 9, 3) := by decide +kernel
theorem dX9_indexed_102 : decode cX9_indexed 102 = .ok (.iload_n 2, 1) := by decide +kernel
theorem dX9_indexed_103 : decode cX9_indexed 103 = .ok (.iload 8, 2) := by decide +kernel
theorem dX9_indexed_105 : decode cX9_indexed 105 = .ok (.invokevirtual 43, 3) := by decide +kernel
theorem dX9_indexed_108 : decode cX9_indexed 108 = .ok (.goto 12, 3) := by decide +kernel
theorem dX9_indexed_111 : decode cX9_indexed 111 = .ok (.aload_n 0, 1) := by decide +kernel
theorem dX9_indexed_112 : decode cX9_indexed 112 = .ok (.getfield 15, 3) := by decide +kernel
theorem dX9_indexed_115 : decode cX9_indexed 115 = .ok (.iload 9, 2) := by decide +kernel
theorem dX9_indexed_117 : decode cX9_indexed 117 = .ok (.invokevirtual 46, 3) := by decide +kernel
theorem dX9_indexed_120 : decode cX9_indexed 120 = .ok (.istore 11, 2) := by decide +kernel
theorem dX9_indexed_122 : decode cX9_indexed 122 = .ok (.iload 4, 2) := by decide +kernel
theorem dX9_indexed_124 : decode cX9_indexed 124 = .ok (.bipush 15, 2) := by decide +kernel
theorem dX9_indexed_126 : decode cX9_indexed 126 = .ok (.if_icmp .eq 28, 3) := by decide +kernel
theorem dX9_indexed_129 : decode cX9_indexed 129 = .ok (.iload 7, 2) := by decide +kernel
theorem dX9_indexed_131 : decode cX9_indexed 131 = .ok (.ifCond .eq 12, 3) := by decide +kernel
theorem dX9_indexed_134 : decode cX9_indexed 134 = .ok (.iload_n 1, 1) := by decide +kernel
theorem dX9_indexed_135 : decode cX9_indexed 135 = .ok (.bipush 21, 2) := by decide +kernel
theorem dX9_indexed_137 : decode cX9_indexed 137 = .ok (.invokestatic 31, 3) := by decide +kernel
theorem dX9_indexed_140 : decode cX9_indexed 140 = .ok (.ifCond .eq 14, 3) := by decide +kernel
theorem dX9_indexed_143 : decode cX9_indexed 143 = .ok (.aload_n 0, 1) := by decide +kernel
theorem dX9_indexed_144 : decode cX9_indexed 144 = .ok (.getfield 15, 3) := by decide +kernel
theorem dX9_indexed_147 : decode cX9_indexed 147 = .ok (.iload 4, 2) := by decide +kernel
theorem dX9_indexed_149 : decode cX9_indexed 149 = .ok (.iload 6, 2) := by decide +kernel
theorem dX9_indexed_151 : decode cX9_indexed 151 = .ok (.invokevirtual 49, 3) := by decide +kernel
theorem dX9_indexed_154 : decode cX9_indexed 154 = .ok (.iload 10, 2) := by decide +kernel
theorem dX9_indexed_156 : decode cX9_indexed 156 = .ok (.ifCond .eq 17, 3) := by decide +kernel
theorem dX9_indexed_159 : decode cX9_indexed 159 = .ok (.aload_n 0, 1) := by decide +kernel
theorem dX9_indexed_160 : decode cX9_indexed 160 = .ok (.getfield 15, 3) := by decide +kernel
theorem dX9_indexed_163 : decode cX9_indexed 163 = .ok (.iload 9, 2) := by decide +kernel
theorem dX9_indexed_165 : decode cX9_indexed 165 = .ok (.iload 11, 2) := by decide +kernel
theorem dX9_indexed_167 : decode cX9_indexed 167 = .ok (.invokevirtual 49, 3) := by decide +kernel
theorem dX9_indexed_170 : decode cX9_indexed 170 = .ok (.goto 15, 3) := by decide +kernel
theorem dX9_indexed_173 : decode cX9_indexed 173 = .ok (.aload_n 0, 1) := by decide +kernel
theorem dX9_indexed_174 : decode cX9_indexed 174 = .ok (.getfield 9, 3) := by decide +kernel
theorem dX9_indexed_177 : decode cX9_indexed 177 = .ok (.iload_n 2, 1) := by decide +kernel
theorem dX9_indexed_178 : decode cX9_indexed 178 = .ok (.iload 8, 2) := by decide +kernel
theorem dX9_indexed_180 : decode cX9_indexed 180 = .ok (.iload 11, 2) := by decide +kernel
theorem dX9_indexed_182 : decode cX9_indexed 182 = .ok (.invokevirtual 53, 3) := by decide +kernel
theorem dX9_indexed_185 : decode cX9_indexed 185 = .ok (.iconst (-1), 1) := by decide +kernel
theorem dX9_indexed_186 : decode cX9_indexed 186 = .ok (.ireturn, 1) := by decide +kernel
theorem dX9_plain_0 : decode cX9_plain 0 = .ok (.aload_n 0, 1) := by decide +kernel
theorem dX9_plain_1 : decode cX9_plain 1 = .ok (.getfield 9, 3) := by decide +kernel
theorem dX9_plain_4 : decode cX9_plain 4 = .ok (.iload 4, 2) := by decide +kernel
theorem dX9_plain_6 : decode cX9_plain 6 = .ok (.invokevirtual 35, 3) := by decide +kernel
theorem dX9_plain_9 : decode cX9_plain 9 = .ok (.ifCond .ne 5, 3) := by decide +kernel
theorem dX9_plain_12 : decode cX9_plain 12 = .ok (.iconst 3, 1) := by decide +kernel
theorem dX9_plain_13 : decode cX9_plain 13 = .ok (.ireturn, 1) := by decide +kernel
theorem dX9_plain_14 : decode cX9_plain 14 = .ok (.iload_n 1, 1) := by decide +kernel
theorem dX9_plain_15 : decode cX9_plain 15 = .ok (.ifCond .eq 24, 3) := by decide +kernel
theorem dX9_plain_18 : decode cX9_plain 18 = .ok (.aload_n 0, 1) := by decide +kernel
theorem dX9_plain_19 : decode cX9_plain 19 = .ok (.getfield 15, 3) := by decide +kernel
theorem dX9_plain_22 : decode cX9_plain 22 = .ok (.iload_n 3, 1) := by decide +kernel
theorem dX9_plain_23 : decode cX9_plain 23 = .ok (.aload_n 0, 1) := by decide +kernel
theorem dX9_plain_24 : decode cX9_plain 24 = .ok (.getfield 9, 3) := by decide +kernel
theorem dX9_plain_27 : decode cX9_plain 27 = .ok (.iload_n 2, 1) := by decide +kernel
theorem dX9_plain_28 : decode cX9_plain 28 = .ok (.iload 4, 2) := by decide +kernel
theorem dX9_plain_30 : decode cX9_plain 30 = .ok (.invokevirtual 43, 3) := by decide +kernel
theorem dX9_plain_33 : decode cX9_plain 33 = .ok (.invokevirtual 49, 3) := by decide +kernel
theorem dX9_plain_36 : decode cX9_plain 36 = .ok (.goto 21, 3) := by decide +kernel
theorem dX9_plain_39 : decode cX9_plain 39 = .ok (.aload_n 0, 1) := by decide +kernel
theorem dX9_plain_40 : decode cX9_plain 40 = .ok (.getfield 9, 3) := by decide +kernel
theorem dX9_plain_43 : decode cX9_plain 43 = .ok (.iload_n 2, 1) := by decide +kernel
theorem dX9_plain_44 : decode cX9_plain 44 = .ok (.iload 4, 2) := by decide +kernel
theorem dX9_plain_46 : decode cX9_plain 46 = .ok (.aload_n 0, 1) := by decide +kernel
theorem dX9_plain_47 : decode cX9_plain 47 = .ok (.getfield 15, 3) := by decide +kernel
theorem dX9_plain_50 : decode cX9_plain 50 = .ok (.iload_n 3, 1) := by decide +kernel
theorem dX9_plain_51 : decode cX9_plain 51 = .ok (.invokevirtual 25, 3) := by decide +kernel
theorem dX9_plain_54 : decode cX9_plain 54 = .ok (.invokevirtual 53, 3) := by decide +kernel
theorem dX9_plain_57 : decode cX9_plain 57 = .ok (.iconst (-1), 1) := by decide +kernel
theorem dX9_plain_58 : decode cX9_plain 58 = .ok (.ireturn, 1) := by decide +kernel
theorem dX9_swap_0 : decode cX9_swap 0 = .ok (.aload_n 0, 1) := by decide +kernel
theorem dX9_swap_1 : decode cX9_swap 1 = .ok (.getfield 15, 3) := by decide +kernel
theorem dX9_swap_4 : decode cX9_swap 4 = .ok (.iload_n 2, 1) := by decide +kernel
theorem dX9_swap_5 : decode cX9_swap 5 = .ok (.invokevirtual 25, 3) := by decide +kernel
theorem dX9_swap_8 : decode cX9_swap 8 = .ok (.istore 5, 2) := by decide +kernel
theorem dX9_swap_10 : decode cX9_swap 10 = .ok (.aload_n 0, 1) := by decide +kernel
theorem dX9_swap_11 : decode cX9_swap 11 = .ok (.getfield 9, 3) := by decide +kernel
theorem dX9_swap_14 : decode cX9_swap 14 = .ok (.iload 5, 2) := by decide +kernel
theorem dX9_swap_16 : decode cX9_swap 16 = .ok (.invokevirtual 35, 3) := by decide +kernel
theorem dX9_swap_19 : decode cX9_swap 19 = .ok (.ifCond .ne 5, 3) := by decide +kernel
theorem dX9_swap_22 : decode cX9_swap 22 = .ok (.iconst 3, 1) := by decide +kernel
theorem dX9_swap_23 : decode cX9_swap 23 = .ok (.ireturn, 1) := by decide +kernel
theorem dX9_swap_24 : decode cX9_swap 24 = .ok (.aload_n 0, 1) := by decide +kernel
theorem dX9_swap_25 : decode cX9_swap 25 = .ok (.getfield 9, 3) := by decide +kernel
theorem dX9_swap_28 : decode cX9_swap 28 = .ok (.iload_n 1, 1) := by decide +kernel
theorem dX9_swap_29 : decode cX9_swap 29 = .ok (.iload 5, 2) := by decide +kernel
theorem dX9_swap_31 : decode cX9_swap 31 = .ok (.invokevirtual 43, 3) := by decide +kernel
theorem dX9_swap_34 : decode cX9_swap 34 = .ok (.istore 6, 2) := by decide +kernel
theorem dX9_swap_36 : decode cX9_swap 36 = .ok (.aload_n 0, 1) := by decide +kernel
theorem dX9_swap_37 : decode cX9_swap 37 = .ok (.getfield 9, 3) := by decide +kernel
theorem dX9_swap_40 : decode cX9_swap 40 = .ok (.iload_n 1, 1) := by decide +kernel
theorem dX9_swap_41 : decode cX9_swap 41 = .ok (.iload 5, 2) := by decide +kernel
theorem dX9_swap_43 : decode cX9_swap 43 = .ok (.aload_n 0, 1) := by decide +kernel
theorem dX9_swap_44 : decode cX9_swap 44 = .ok (.getfield 15, 3) := by decide +kernel
theorem dX9_swap_47 : decode cX9_swap 47 = .ok (.iload 4, 2) := by decide +kernel
theorem dX9_swap_49 : decode cX9_swap 49 = .ok (.invokevirtual 25, 3) := by decide +kernel
theorem dX9_swap_52 : decode cX9_swap 52 = .ok (.invokevirtual 53, 3) := by decide +kernel
theorem dX9_swap_55 : decode cX9_swap 55 = .ok (.aload_n 0, 1) := by decide +kernel
theorem dX9_swap_56 : decode cX9_swap 56 = .ok (.getfield 15, 3) := by decide +kernel
theorem dX9_swap_59 : decode cX9_swap 59 = .ok (.iload_n 3, 1) := by decide +kernel
theorem dX9_swap_60 : decode cX9_swap 60 = .ok (.iload 6, 2) := by decide +kernel
theorem dX9_swap_62 : decode cX9_swap 62 = .ok (.invokevirtual 49, 3) := by decide +kernel
theorem dX9_swap_65 : decode cX9_swap 65 = .ok (.iconst (-1), 1) := by decide +kernel
theorem dX9_swap_66 : decode cX9_swap 66 = .ok (.ireturn, 1) := by decide +kernel
theorem dX9_many_0 : decode cX9_many 0 = .ok (.iload_n 1, 1) := by decide +kernel
theorem dX9_many_1 : decode cX9_many 1 = .ok (.ldc 57, 2) := by decide +kernel
theorem dX9_many_3 : decode cX9_many 3 = .ok (.iand, 1) := by decide +kernel
theorem dX9_many_4 : decode cX9_many 4 = .ok (.istore_n 2, 1) := by decide +kernel
theorem dX9_many_5 : decode cX9_many 5 = .ok (.iload_n 2, 1) := by decide +kernel
theorem dX9_many_6 : decode cX9_many 6 = .ok (.ifCond .ne 5, 3) := by decide +kernel
theorem dX9_many_9 : decode cX9_many 9 = .ok (.iconst (-1), 1) := by decide +kernel
theorem dX9_many_10 : decode cX9_many 10 = .ok (.ireturn, 1) := by decide +kernel
theorem dX9_many_11 : decode cX9_many 11 = .ok (.aload_n 0, 1) := by decide +kernel
theorem dX9_many_12 : decode cX9_many 12 = .ok (.getfield 15, 3) := by decide +kernel
theorem dX9_many_15 : decode cX9_many 15 = .ok (.iload_n 1, 1) := by decide +kernel
theorem dX9_many_16 : decode cX9_many 16 = .ok (.bipush 16, 2) := by decide +kernel
theorem dX9_many_18 : decode cX9_many 18 = .ok (.invokestatic 19, 3) := by decide +kernel
theorem dX9_many_21 : decode cX9_many 21 = .ok (.invokevirtual 25, 3) := by decide +kernel
theorem dX9_many_24 : decode cX9_many 24 = .ok (.istore_n 3, 1) := by decide +kernel
theorem dX9_many_25 : decode cX9_many 25 = .ok (.iconst 4, 1) := by decide +kernel
theorem dX9_many_26 : decode cX9_many 26 = .ok (.iload_n 2, 1) := by decide +kernel
theorem dX9_many_27 : decode cX9_many 27 = .ok (.invokestatic 58, 3) := by decide +kernel
theorem dX9_many_30 : decode cX9_many 30 = .ok (.imul, 1) := by decide +kernel
theorem dX9_many_31 : decode cX9_many 31 = .ok (.istore 4, 2) := by decide +kernel
theorem dX9_many_33 : decode cX9_many 33 = .ok (.iload_n 1, 1) := by decide +kernel
theorem dX9_many_34 : decode cX9_many 34 = .ok (.bipush 23, 2) := by decide +kernel
theorem dX9_many_36 : decode cX9_many 36 = .ok (.invokestatic 31, 3) := by decide +kernel
theorem dX9_many_39 : decode cX9_many 39 = .ok (.istore 5, 2) := by decide +kernel
theorem dX9_many_41 : decode cX9_many 41 = .ok (.iload 5, 2) := by decide +kernel
theorem dX9_many_43 : decode cX9_many 43 = .ok (.ifCond .eq 10, 3) := by decide +kernel
theorem dX9_many_46 : decode cX9_many 46 = .ok (.iload_n 3, 1) := by decide +kernel
theorem dX9_many_47 : decode cX9_many 47 = .ok (.iload 4, 2) := by decide +kernel
theorem dX9_many_49 : decode cX9_many 49 = .ok (.iadd, 1) := by decide +kernel
theorem dX9_many_50 : decode cX9_many 50 = .ok (.goto 7, 3) := by decide +kernel
theorem dX9_many_53 : decode cX9_many 53 = .ok (.iload_n 3, 1) := by decide +kernel
theorem dX9_many_54 : decode cX9_many 54 = .ok (.iload 4, 2) := by decide +kernel
theorem dX9_many_56 : decode cX9_many 56 = .ok (.isub, 1) := by decide +kernel
theorem dX9_many_57 : decode cX9_many 57 = .ok (.istore 6, 2) := by decide +kernel
theorem dX9_many_59 : decode cX9_many 59 = .ok (.iload 5, 2) := by decide +kernel
theorem dX9_many_61 : decode cX9_many 61 = .ok (.ifCond .eq 7, 3) := by decide +kernel
theorem dX9_many_64 : decode cX9_many 64 = .ok (.iload_n 3, 1) := by decide +kernel
theorem dX9_many_65 : decode cX9_many 65 = .ok (.goto 5, 3) := by decide +kernel
theorem dX9_many_68 : decode cX9_many 68 = .ok (.iload 6, 2) := by decide +kernel
theorem dX9_many_70 : decode cX9_many 70 = .ok (.istore 7, 2) := by decide +kernel
theorem dX9_many_72 : decode cX9_many 72 = .ok (.iload 5, 2) := by decide +kernel
theorem dX9_many_74 : decode cX9_many 74 = .ok (.iload_n 1, 1) := by decide +kernel
theorem dX9_many_75 : decode cX9_many 75 = .ok (.bipush 24, 2) := by decide +kernel
theorem dX9_many_77 : decode cX9_many 77 = .ok (.invokestatic 31, 3) := by decide +kernel
theorem dX9_many_80 : decode cX9_many 80 = .ok (.if_icmp .ne 6, 3) := by decide +kernel
theorem dX9_many_83 : decode cX9_many 83 = .ok (.iinc 7 4, 3) := by decide +kernel
theorem dX9_many_86 : decode cX9_many 86 = .ok (.iload_n 1, 1) := by decide +kernel
theorem dX9_many_87 : decode cX9_many 87 = .ok (.bipush 20, 2) := by decide +kernel
theorem dX9_many_89 : decode cX9_many 89 = .ok (.invokestatic 31, 3) := by decide +kernel
theorem dX9_many_92 : decode cX9_many 92 = .ok (.ifCond .eq 20, 3) := by decide +kernel
theorem dX9_many_95 : decode cX9_many 95 = .ok (.aload_n 0, 1) := by decide +kernel
theorem dX9_many_96 : decode cX9_many 96 = .ok (.iload_n 1, 1) := by decide +kernel
theorem dX9_many_97 : decode cX9_many 97 = .ok (.iload 7, 2) := by decide +kernel
theorem dX9_many_99 : decode cX9_many 99 = .ok (.iload 6, 2) := by decide +kernel
theorem dX9_many_101 : decode cX9_many 101 = .ok (.iload 7, 2) := by decide +kernel
theorem dX9_many_103 : decode cX9_many 103 = .ok (.iload 4, 2) := by decide +kernel
theorem dX9_many_105 : decode cX9_many 105 = .ok (.iadd, 1) := by decide +kernel
theorem dX9_many_106 : decode cX9_many 106 = .ok (.iconst 4, 1) := by decide +kernel
theorem dX9_many_107 : decode cX9_many 107 = .ok (.isub, 1) := by decide +kernel
theorem dX9_many_108 : decode cX9_many 108 = .ok (.invokevirtual 63, 3) := by decide +kernel
theorem dX9_many_111 : decode cX9_many 111 = .ok (.ireturn, 1) := by decide +kernel
theorem dX9_many_112 : decode cX9_many 112 = .ok (.aload_n 0, 1) := by decide +kernel
theorem dX9_many_113 : decode cX9_many 113 = .ok (.iload_n 1, 1) := by decide +kernel
theorem dX9_many_114 : decode cX9_many 114 = .ok (.iload 7, 2) := by decide +kernel
theorem dX9_many_116 : decode cX9_many 116 = .ok (.iload 6, 2) := by decide +kernel
theorem dX9_many_118 : decode cX9_many 118 = .ok (.invokevirtual 67, 3) := by decide +kernel
theorem dX9_many_121 : decode cX9_many 121 = .ok (.ireturn, 1) := by decide +kernel
theorem dX9_storeMany_0 : decode cX9_storeMany 0 = .ok (.iload_n 1, 1) := by decide +kernel
theorem dX9_storeMany_1 : decode cX9_storeMany 1 = .ok (.bipush 22, 2) := by decide +kernel
theorem dX9_storeMany_3 : decode cX9_storeMany 3 = .ok (.invokestatic 31, 3) := by decide +kernel
theorem dX9_storeMany_6 : decode cX9_storeMany 6 = .ok (.ifCond .eq 7, 3) := by decide +kernel
theorem dX9_storeMany_9 : decode cX9_storeMany 9 = .ok (.iconst 0, 1) := by decide +kernel
theorem dX9_storeMany_10 : decode cX9_storeMany 10 = .ok (.goto 10, 3) := by decide +kernel
theorem dX9_storeMany_13 : decode cX9_storeMany 13 = .ok (.aload_n 0, 1) := by decide +kernel
theorem dX9_storeMany_14 : decode cX9_storeMany 14 = .ok (.getfield 15, 3) := by decide +kernel
theorem dX9_storeMany_17 : decode cX9_storeMany 17 = .ok (.invokevirtual 71, 3) := by decide +kernel
theorem dX9_storeMany_20 : decode cX9_storeMany 20 = .ok (.istore 4, 2) := by decide +kernel
theorem dX9_storeMany_22 : decode cX9_storeMany 22 = .ok (.iload_n 2, 1) := by decide +kernel
theorem dX9_storeMany_23 : decode cX9_storeMany 23 = .ok (.istore 5, 2) := by decide +kernel
theorem dX9_storeMany_25 : decode cX9_storeMany 25 = .ok (.iconst 0, 1) := by decide +kernel
theorem dX9_storeMany_26 : decode cX9_storeMany 26 = .ok (.istore 6, 2) := by decide +kernel
theorem dX9_storeMany_28 : decode cX9_storeMany 28 = .ok (.iload 6, 2) := by decide +kernel
theorem dX9_storeMany_30 : decode cX9_storeMany 30 = .ok (.bipush 15, 2) := by decide +kernel
theorem dX9_storeMany_32 : decode cX9_storeMany 32 = .ok (.if_icmp .gt 55, 3) := by decide +kernel
theorem dX9_storeMany_35 : decode cX9_storeMany 35 = .ok (.iload_n 1, 1) := by decide +kernel
theorem dX9_storeMany_36 : decode cX9_storeMany 36 = .ok (.iload 6, 2) := by decide +kernel
theorem dX9_storeMany_38 : decode cX9_storeMany 38 = .ok (.invokestatic 31, 3) := by decide +kernel
theorem dX9_storeMany_41 : decode cX9_storeMany 41 = .ok (.ifCond .eq 40, 3) := by decide +kernel
theorem dX9_storeMany_44 : decode cX9_storeMany 44 = .ok (.aload_n 0, 1) := by decide +kernel
theorem dX9_storeMany_45 : decode cX9_storeMany 45 = .ok (.getfield 9, 3) := by decide +kernel
theorem dX9_storeMany_48 : decode cX9_storeMany 48 = .ok (.iload 5, 2) := by decide +kernel
theorem dX9_storeMany_50 : decode cX9_storeMany 50 = .ok (.invokevirtual 35, 3) := by decide +kernel
theorem dX9_storeMany_53 : decode cX9_storeMany 53 = .ok (.ifCond .ne 5, 3) := by decide +kernel
theorem dX9_storeMany_56 : decode cX9_storeMany 56 = .ok (.iconst 3, 1) := by decide +kernel
theorem dX9_storeMany_57 : decode cX9_storeMany 57 = .ok (.ireturn, 1) := by decide +kernel
theorem dX9_storeMany_58 : decode cX9_storeMany 58 = .ok (.aload_n 0, 1) := by decide +kernel
theorem dX9_storeMany_59 : decode cX9_storeMany 59 = .ok (.getfield 9, 3) := by decide +kernel
theorem dX9_storeMany_62 : decode cX9_storeMany 62 = .ok (.iload 5, 2) := by decide +kernel
theorem dX9_storeMany_64 : decode cX9_storeMany 64 = .ok (.aload_n 0, 1) := by decide +kernel
theorem dX9_storeMany_65 : decode cX9_storeMany 65 = .ok (.getfield 15, 3) := by decide +kernel
theorem dX9_storeMany_68 : decode cX9_storeMany 68 = .ok (.iload 4, 2) := by decide +kernel
theorem dX9_storeMany_70 : decode cX9_storeMany 70 = .ok (.iload 6, 2) := by decide +kernel
theorem dX9_storeMany_72 : decode cX9_storeMany 72 = .ok (.invokevirtual 75, 3) := by decide +kernel
theorem dX9_storeMany_75 : decode cX9_storeMany 75 = .ok (.invokevirtual 78, 3) := by decide +kernel
theorem dX9_storeMany_78 : decode cX9_storeMany 78 = .ok (.iinc 5 4, 3) := by decide +kernel
theorem dX9_storeMany_81 : decode cX9_storeMany 81 = .ok (.iinc 6 1, 3) := by decide +kernel
theorem dX9_storeMany_84 : decode cX9_storeMany 84 = .ok (.goto (-56), 3) := by decide +kernel
theorem dX9_storeMany_87 : decode cX9_storeMany 87 = .ok (.iload_n 1, 1) := by decide +kernel
theorem dX9_storeMany_88 : decode cX9_storeMany 88 = .ok (.bipush 16, 2) := by decide +kernel
theorem dX9_storeMany_90 : decode cX9_storeMany 90 = .ok (.invokestatic 19, 3) := by decide +kernel
theorem dX9_storeMany_93 : decode cX9_storeMany 93 = .ok (.istore 6, 2) := by decide +kernel
theorem dX9_storeMany_95 : decode cX9_storeMany 95 = .ok (.iload 6, 2) := by decide +kernel
theorem dX9_storeMany_97 : decode cX9_storeMany 97 = .ok (.bipush 15, 2) := by decide +kernel
theorem dX9_storeMany_99 : decode cX9_storeMany 99 = .ok (.if_icmp .eq 29, 3) := by decide +kernel
theorem dX9_storeMany_102 : decode cX9_storeMany 102 = .ok (.iload_n 1, 1) := by decide +kernel
theorem dX9_storeMany_103 : decode cX9_storeMany 103 = .ok (.bipush 21, 2) := by decide +kernel
theorem dX9_storeMany_105 : decode cX9_storeMany 105 = .ok (.invokestatic 31, 3) := by decide +kernel
theorem dX9_storeMany_108 : decode cX9_storeMany 108 = .ok (.ifCond .eq 20, 3) := by decide +kernel
theorem dX9_storeMany_111 : decode cX9_storeMany 111 = .ok (.aload_n 0, 1) := by decide +kernel
theorem dX9_storeMany_112 : decode cX9_storeMany 112 = .ok (.getfield 15, 3) := by decide +kernel
theorem dX9_storeMany_115 : decode cX9_storeMany 115 = .ok (.aload_n 0, 1) := by decide +kernel
theorem dX9_storeMany_116 : decode cX9_storeMany 116 = .ok (.getfield 15, 3) := by decide +kernel
theorem dX9_storeMany_119 : decode cX9_storeMany 119 = .ok (.invokevirtual 71, 3) := by decide +kernel
theorem dX9_storeMany_122 : decode cX9_storeMany 122 = .ok (.iload 6, 2) := by decide +kernel
theorem dX9_storeMany_124 : decode cX9_storeMany 124 = .ok (.iload_n 3, 1) := by decide +kernel
theorem dX9_storeMany_125 : decode cX9_storeMany 125 = .ok (.invokevirtual 81, 3) := by decide +kernel
theorem dX9_storeMany_128 : decode cX9_storeMany 128 = .ok (.iconst (-1), 1) := by decide +kernel
theorem dX9_storeMany_129 : decode cX9_storeMany 129 = .ok (.ireturn, 1) := by decide +kernel
theorem dX9_loadMany_0 : decode cX9_loadMany 0 = .ok (.aload_n 0, 1) := by decide +kernel
theorem dX9_loadMany_1 : decode cX9_loadMany 1 = .ok (.getfield 9, 3) := by decide +kernel
theorem dX9_loadMany_4 : decode cX9_loadMany 4 = .ok (.iload_n 2, 1) := by decide +kernel
theorem dX9_loadMany_5 : decode cX9_loadMany 5 = .ok (.invokevirtual 35, 3) := by decide +kernel
theorem dX9_loadMany_8 : decode cX9_loadMany 8 = .ok (.ifCond .eq 15, 3) := by decide +kernel
theorem dX9_loadMany_11 : decode cX9_loadMany 11 = .ok (.aload_n 0, 1) := by decide +kernel
theorem dX9_loadMany_12 : decode cX9_loadMany 12 = .ok (.getfield 9, 3) := by decide +kernel
theorem dX9_loadMany_15 : decode cX9_loadMany 15 = .ok (.iload 4, 2) := by decide +kernel
theorem dX9_loadMany_17 : decode cX9_loadMany 17 = .ok (.invokevirtual 35, 3) := by decide +kernel
theorem dX9_loadMany_20 : decode cX9_loadMany 20 = .ok (.ifCond .ne 5, 3) := by decide +kernel
theorem dX9_loadMany_23 : decode cX9_loadMany 23 = .ok (.iconst 3, 1) := by decide +kernel
theorem dX9_loadMany_24 : decode cX9_loadMany 24 = .ok (.ireturn, 1) := by decide +kernel
theorem dX9_loadMany_25 : decode cX9_loadMany 25 = .ok (.iload_n 1, 1) := by decide +kernel
theorem dX9_loadMany_26 : decode cX9_loadMany 26 = .ok (.bipush 16, 2) := by decide +kernel
theorem dX9_loadMany_28 : decode cX9_loadMany 28 = .ok (.invokestatic 19, 3) := by decide +kernel
theorem dX9_loadMany_31 : decode cX9_loadMany 31 = .ok (.istore 5, 2) := by decide +kernel
theorem dX9_loadMany_33 : decode cX9_loadMany 33 = .ok (.iload 5, 2) := by decide +kernel
theorem dX9_loadMany_35 : decode cX9_loadMany 35 = .ok (.bipush 15, 2) := by decide +kernel
theorem dX9_loadMany_37 : decode cX9_loadMany 37 = .ok (.if_icmp .eq 29, 3) := by decide +kernel
theorem dX9_loadMany_40 : decode cX9_loadMany 40 = .ok (.iload_n 1, 1) := by decide +kernel
theorem dX9_loadMany_41 : decode cX9_loadMany 41 = .ok (.bipush 21, 2) := by decide +kernel
theorem dX9_loadMany_43 : decode cX9_loadMany 43 = .ok (.invokestatic 31, 3) := by decide +kernel
theorem dX9_loadMany_46 : decode cX9_loadMany 46 = .ok (.ifCond .eq 20, 3) := by decide +kernel
theorem dX9_loadMany_49 : decode cX9_loadMany 49 = .ok (.aload_n 0, 1) := by decide +kernel
theorem dX9_loadMany_50 : decode cX9_loadMany 50 = .ok (.getfield 15, 3) := by decide +kernel
theorem dX9_loadMany_53 : decode cX9_loadMany 53 = .ok (.aload_n 0, 1) := by decide +kernel
theorem dX9_loadMany_54 : decode cX9_loadMany 54 = .ok (.getfield 15, 3) := by decide +kernel
theorem dX9_loadMany_57 : decode cX9_loadMany 57 = .ok (.invokevirtual 71, 3) := by decide +kernel
