theorem dX0_partInLowestTerms_26 : decode cX0_partInLowestTerms 26 = .ok (.ifCond .le 11, 3) := by decide +kernel
theorem dX0_partInLowestTerms_29 : decode cX0_partInLowestTerms 29 = .ok (.lload 5, 2) := by decide +kernel
theorem dX0_partInLowestTerms_31 : decode cX0_partInLowestTerms 31 = .ok (.lload 7, 2) := by decide +kernel
theorem dX0_partInLowestTerms_33 : decode cX0_partInLowestTerms 33 = .ok (.ldiv, 1) := by decide +kernel
theorem dX0_partInLowestTerms_34 : decode cX0_partInLowestTerms 34 = .ok (.goto 5, 3) := by decide +kernel
theorem dX0_partInLowestTerms_37 : decode cX0_partInLowestTerms 37 = .ok (.lload 5, 2) := by decide +kernel
theorem dX0_partInLowestTerms_39 : decode cX0_partInLowestTerms 39 = .ok (.lreturn, 1) := by decide +kernel
theorem dX0_greatestCommonDivisor_0 : decode cX0_greatestCommonDivisor 0 = .ok (.lload_n 0, 1) := by decide +kernel
theorem dX0_greatestCommonDivisor_1 : decode cX0_greatestCommonDivisor 1 = .ok (.lstore 4, 2) := by decide +kernel
theorem dX0_greatestCommonDivisor_3 : decode cX0_greatestCommonDivisor 3 = .ok (.lload_n 2, 1) := by decide +kernel
theorem dX0_greatestCommonDivisor_4 : decode cX0_greatestCommonDivisor 4 = .ok (.lstore 6, 2) := by decide +kernel
theorem dX0_greatestCommonDivisor_6 : decode cX0_greatestCommonDivisor 6 = .ok (.iconst 0, 1) := by decide +kernel
theorem dX0_greatestCommonDivisor_7 : decode cX0_greatestCommonDivisor 7 = .ok (.istore 8, 2) := by decide +kernel
theorem dX0_greatestCommonDivisor_9 : decode cX0_greatestCommonDivisor 9 = .ok (.iload 8, 2) := by decide +kernel
theorem dX0_greatestCommonDivisor_11 : decode cX0_greatestCommonDivisor 11 = .ok (.bipush 100, 2) := by decide +kernel
theorem dX0_greatestCommonDivisor_13 : decode cX0_greatestCommonDivisor 13 = .ok (.if_icmp .ge 31, 3) := by decide +kernel
theorem dX0_greatestCommonDivisor_16 : decode cX0_greatestCommonDivisor 16 = .ok (.lload 6, 2) := by decide +kernel
theorem dX0_greatestCommonDivisor_18 : decode cX0_greatestCommonDivisor 18 = .ok (.lconst 0, 1) := by decide +kernel
theorem dX0_greatestCommonDivisor_19 : decode cX0_greatestCommonDivisor 19 = .ok (.lcmp, 1) := by decide +kernel
theorem dX0_greatestCommonDivisor_20 : decode cX0_greatestCommonDivisor 20 = .ok (.ifCond .eq 24, 3) := by decide +kernel
theorem dX0_greatestCommonDivisor_23 : decode cX0_greatestCommonDivisor 23 = .ok (.lload 4, 2) := by decide +kernel
theorem dX0_greatestCommonDivisor_25 : decode cX0_greatestCommonDivisor 25 = .ok (.lload 6, 2) := by decide +kernel
theorem dX0_greatestCommonDivisor_27 : decode cX0_greatestCommonDivisor 27 = .ok (.lrem, 1) := by decide +kernel
theorem dX0_greatestCommonDivisor_28 : decode cX0_greatestCommonDivisor 28 = .ok (.lstore 9, 2) := by decide +kernel
theorem dX0_greatestCommonDivisor_30 : decode cX0_greatestCommonDivisor 30 = .ok (.lload 6, 2) := by decide +kernel
theorem dX0_greatestCommonDivisor_32 : decode cX0_greatestCommonDivisor 32 = .ok (.lstore 4, 2) := by decide +kernel
theorem dX0_greatestCommonDivisor_34 : decode cX0_greatestCommonDivisor 34 = .ok (.lload 9, 2) := by decide +kernel
theorem dX0_greatestCommonDivisor_36 : decode cX0_greatestCommonDivisor 36 = .ok (.lstore 6, 2) := by decide +kernel
theorem dX0_greatestCommonDivisor_38 : decode cX0_greatestCommonDivisor 38 = .ok (.iinc 8 1, 3) := by decide +kernel
theorem dX0_greatestCommonDivisor_41 : decode cX0_greatestCommonDivisor 41 = .ok (.goto (-32), 3) := by decide +kernel
theorem dX0_greatestCommonDivisor_44 : decode cX0_greatestCommonDivisor 44 = .ok (.lload 4, 2) := by decide +kernel
theorem dX0_greatestCommonDivisor_46 : decode cX0_greatestCommonDivisor 46 = .ok (.lreturn, 1) := by decide +kernel
theorem dL_offset_0 : decode cL_offset 0 = .ok (.aload_n 3, 1) := by decide +kernel
theorem dL_offset_1 : decode cL_offset 1 = .ok (.iconst 0, 1) := by decide +kernel
theorem dL_offset_2 : decode cL_offset 2 = .ok (.aload_n 0, 1) := by decide +kernel
theorem dL_offset_3 : decode cL_offset 3 = .ok (.iload_n 1, 1) := by decide +kernel
theorem dL_offset_4 : decode cL_offset 4 = .ok (.iload_n 2, 1) := by decide +kernel
theorem dL_offset_5 : decode cL_offset 5 = .ok (.invokevirtual 27, 3) := by decide +kernel
theorem dL_offset_8 : decode cL_offset 8 = .ok (.lastore, 1) := by decide +kernel
theorem dL_offset_9 : decode cL_offset 9 = .ok (.goto 15, 3) := by decide +kernel
theorem dL_offset_12 : decode cL_offset 12 = .ok (.astore 4, 2) := by decide +kernel
theorem dL_offset_14 : decode cL_offset 14 = .ok (.iconst 1, 1) := by decide +kernel
theorem dL_offset_15 : decode cL_offset 15 = .ok (.ireturn, 1) := by decide +kernel
theorem dL_offset_16 : decode cL_offset 16 = .ok (.astore 4, 2) := by decide +kernel
theorem dL_offset_18 : decode cL_offset 18 = .ok (.iconst 2, 1) := by decide +kernel
theorem dL_offset_19 : decode cL_offset 19 = .ok (.ireturn, 1) := by decide +kernel
theorem dL_offset_20 : decode cL_offset 20 = .ok (.astore 4, 2) := by decide +kernel
theorem dL_offset_22 : decode cL_offset 22 = .ok (.iconst 3, 1) := by decide +kernel
theorem dL_offset_23 : decode cL_offset 23 = .ok (.ireturn, 1) := by decide +kernel
theorem dL_offset_24 : decode cL_offset 24 = .ok (.iconst 0, 1) := by decide +kernel
theorem dL_offset_25 : decode cL_offset 25 = .ok (.ireturn, 1) := by decide +kernel
theorem dX0_offset_0 : decode cX0_offset 0 = .ok (.iload_n 2, 1) := by decide +kernel
theorem dX0_offset_1 : decode cX0_offset 1 = .ok (.invokestatic 53, 3) := by decide +kernel
theorem dX0_offset_4 : decode cX0_offset 4 = .ok (.aload_n 0, 1) := by decide +kernel
theorem dX0_offset_5 : decode cX0_offset 5 = .ok (.getfield 68, 3) := by decide +kernel
theorem dX0_offset_8 : decode cX0_offset 8 = .ok (.lconst 0, 1) := by decide +kernel
theorem dX0_offset_9 : decode cX0_offset 9 = .ok (.lcmp, 1) := by decide +kernel
theorem dX0_offset_10 : decode cX0_offset 10 = .ok (.ifCond .ne 13, 3) := by decide +kernel
theorem dX0_offset_13 : decode cX0_offset 13 = .ok (.new 79, 3) := by decide +kernel
theorem dX0_offset_16 : decode cX0_offset 16 = .ok (.dup, 1) := by decide +kernel
theorem dX0_offset_17 : decode cX0_offset 17 = .ok (.ldc 81, 2) := by decide +kernel
theorem dX0_offset_19 : decode cX0_offset 19 = .ok (.invokespecial 83, 3) := by decide +kernel
theorem dX0_offset_22 : decode cX0_offset 22 = .ok (.athrow, 1) := by decide +kernel
theorem dX0_offset_23 : decode cX0_offset 23 = .ok (.iload_n 1, 1) := by decide +kernel
theorem dX0_offset_24 : decode cX0_offset 24 = .ok (.iconst 0, 1) := by decide +kernel
theorem dX0_offset_25 : decode cX0_offset 25 = .ok (.ldc 22, 2) := by decide +kernel
theorem dX0_offset_27 : decode cX0_offset 27 = .ok (.invokestatic 23, 3) := by decide +kernel
theorem dX0_offset_30 : decode cX0_offset 30 = .ok (.ifCond .ne 13, 3) := by decide +kernel
theorem dX0_offset_33 : decode cX0_offset 33 = .ok (.new 27, 3) := by decide +kernel
theorem dX0_offset_36 : decode cX0_offset 36 = .ok (.dup, 1) := by decide +kernel
theorem dX0_offset_37 : decode cX0_offset 37 = .ok (.ldc 84, 2) := by decide +kernel
theorem dX0_offset_39 : decode cX0_offset 39 = .ok (.invokespecial 31, 3) := by decide +kernel
theorem dX0_offset_42 : decode cX0_offset 42 = .ok (.athrow, 1) := by decide +kernel
theorem dX0_offset_43 : decode cX0_offset 43 = .ok (.aload_n 0, 1) := by decide +kernel
theorem dX0_offset_44 : decode cX0_offset 44 = .ok (.getfield 50, 3) := by decide +kernel
theorem dX0_offset_47 : decode cX0_offset 47 = .ok (.iload_n 1, 1) := by decide +kernel
theorem dX0_offset_48 : decode cX0_offset 48 = .ok (.iadd, 1) := by decide +kernel
theorem dX0_offset_49 : decode cX0_offset 49 = .ok (.istore_n 3, 1) := by decide +kernel
theorem dX0_offset_50 : decode cX0_offset 50 = .ok (.aload_n 0, 1) := by decide +kernel
theorem dX0_offset_51 : decode cX0_offset 51 = .ok (.iload_n 3, 1) := by decide +kernel
theorem dX0_offset_52 : decode cX0_offset 52 = .ok (.invokevirtual 86, 3) := by decide +kernel
theorem dX0_offset_55 : decode cX0_offset 55 = .ok (.istore 4, 2) := by decide +kernel
theorem dX0_offset_57 : decode cX0_offset 57 = .ok (.iload 4, 2) := by decide +kernel
theorem dX0_offset_59 : decode cX0_offset 59 = .ok (.iconst 1, 1) := by decide +kernel
theorem dX0_offset_60 : decode cX0_offset 60 = .ok (.if_icmp .ge 15, 3) := by decide +kernel
theorem dX0_offset_63 : decode cX0_offset 63 = .ok (.iload_n 2, 1) := by decide +kernel
theorem dX0_offset_64 : decode cX0_offset 64 = .ok (.ifCond .ne 9, 3) := by decide +kernel
theorem dX0_offset_67 : decode cX0_offset 67 = .ok (.ldc2_w 89, 3) := by decide +kernel
theorem dX0_offset_70 : decode cX0_offset 70 = .ok (.goto 4, 3) := by decide +kernel
theorem dX0_offset_73 : decode cX0_offset 73 = .ok (.lconst 0, 1) := by decide +kernel
theorem dX0_offset_74 : decode cX0_offset 74 = .ok (.lreturn, 1) := by decide +kernel
theorem dX0_offset_75 : decode cX0_offset 75 = .ok (.aload_n 0, 1) := by decide +kernel
theorem dX0_offset_76 : decode cX0_offset 76 = .ok (.iload 4, 2) := by decide +kernel
theorem dX0_offset_78 : decode cX0_offset 78 = .ok (.iconst 1, 1) := by decide +kernel
theorem dX0_offset_79 : decode cX0_offset 79 = .ok (.isub, 1) := by decide +kernel
theorem dX0_offset_80 : decode cX0_offset 80 = .ok (.iload_n 3, 1) := by decide +kernel
theorem dX0_offset_81 : decode cX0_offset 81 = .ok (.invokevirtual 91, 3) := by decide +kernel
theorem dX0_offset_84 : decode cX0_offset 84 = .ok (.lstore 5, 2) := by decide +kernel
theorem dX0_offset_86 : decode cX0_offset 86 = .ok (.aload_n 0, 1) := by decide +kernel
theorem dX0_offset_87 : decode cX0_offset 87 = .ok (.iload 4, 2) := by decide +kernel
theorem dX0_offset_89 : decode cX0_offset 89 = .ok (.iload_n 3, 1) := by decide +kernel
theorem dX0_offset_90 : decode cX0_offset 90 = .ok (.invokevirtual 91, 3) := by decide +kernel
theorem dX0_offset_93 : decode cX0_offset 93 = .ok (.lstore 7, 2) := by decide +kernel
theorem dX0_offset_95 : decode cX0_offset 95 = .ok (.aload_n 0, 1) := by decide +kernel
theorem dX0_offset_96 : decode cX0_offset 96 = .ok (.getfield 13, 3) := by decide +kernel
theorem dX0_offset_99 : decode cX0_offset 99 = .ok (.iload 4, 2) := by decide +kernel
theorem dX0_offset_101 : decode cX0_offset 101 = .ok (.iaload, 1) := by decide +kernel
theorem dX0_offset_102 : decode cX0_offset 102 = .ok (.i2l, 1) := by decide +kernel
theorem dX0_offset_103 : decode cX0_offset 103 = .ok (.lload 5, 2) := by decide +kernel
theorem dX0_offset_105 : decode cX0_offset 105 = .ok (.lmul, 1) := by decide +kernel
theorem dX0_offset_106 : decode cX0_offset 106 = .ok (.aload_n 0, 1) := by decide +kernel
theorem dX0_offset_107 : decode cX0_offset 107 = .ok (.getfield 13, 3) := by decide +kernel
theorem dX0_offset_110 : decode cX0_offset 110 = .ok (.iload 4, 2) := by decide +kernel
theorem dX0_offset_112 : decode cX0_offset 112 = .ok (.iconst 1, 1) := by decide +kernel
theorem dX0_offset_113 : decode cX0_offset 113 = .ok (.isub, 1) := by decide +kernel
theorem dX0_offset_114 : decode cX0_offset 114 = .ok (.iaload, 1) := by decide +kernel
theorem dX0_offset_115 : decode cX0_offset 115 = .ok (.i2l, 1) := by decide +kernel
theorem dX0_offset_116 : decode cX0_offset 116 = .ok (.lload 7, 2) := by decide +kernel
theorem dX0_offset_118 : decode cX0_offset 118 = .ok (.lmul, 1) := by decide +kernel
theorem dX0_offset_119 : decode cX0_offset 119 = .ok (.lsub, 1) := by decide +kernel
theorem dX0_offset_120 : decode cX0_offset 120 = .ok (.lstore 9, 2) := by decide +kernel
theorem dX0_offset_122 : decode cX0_offset 122 = .ok (.lload 9, 2) := by decide +kernel
theorem dX0_offset_124 : decode cX0_offset 124 = .ok (.lload 5, 2) := by decide +kernel
theorem dX0_offset_126 : decode cX0_offset 126 = .ok (.lload 7, 2) := by decide +kernel
theorem dX0_offset_128 : decode cX0_offset 128 = .ok (.lsub, 1) := by decide +kernel
theorem dX0_offset_129 : decode cX0_offset 129 = .ok (.iload_n 2, 1) := by decide +kernel
theorem dX0_offset_130 : decode cX0_offset 130 = .ok (.invokestatic 75, 3) := by decide +kernel
theorem dX0_offset_133 : decode cX0_offset 133 = .ok (.lreturn, 1) := by decide +kernel
theorem dX0_meetingRow_0 : decode cX0_meetingRow 0 = .ok (.iconst 1, 1) := by decide +kernel
theorem dX0_meetingRow_1 : decode cX0_meetingRow 1 = .ok (.istore_n 2, 1) := by decide +kernel
theorem dX0_meetingRow_2 : decode cX0_meetingRow 2 = .ok (.iload_n 2, 1) := by decide +kernel
theorem dX0_meetingRow_3 : decode cX0_meetingRow 3 = .ok (.aload_n 0, 1) := by decide +kernel
theorem dX0_meetingRow_4 : decode cX0_meetingRow 4 = .ok (.getfield 34, 3) := by decide +kernel
theorem dX0_meetingRow_7 : decode cX0_meetingRow 7 = .ok (.if_icmp .ge 35, 3) := by decide +kernel
theorem dX0_meetingRow_10 : decode cX0_meetingRow 10 = .ok (.aload_n 0, 1) := by decide +kernel
theorem dX0_meetingRow_11 : decode cX0_meetingRow 11 = .ok (.iload_n 2, 1) := by decide +kernel
theorem dX0_meetingRow_12 : decode cX0_meetingRow 12 = .ok (.iload_n 1, 1) := by decide +kernel
theorem dX0_meetingRow_13 : decode cX0_meetingRow 13 = .ok (.invokevirtual 91, 3) := by decide +kernel
theorem dX0_meetingRow_16 : decode cX0_meetingRow 16 = .ok (.lconst 0, 1) := by decide +kernel
theorem dX0_meetingRow_17 : decode cX0_meetingRow 17 = .ok (.lcmp, 1) := by decide +kernel
theorem dX0_meetingRow_18 : decode cX0_meetingRow 18 = .ok (.ifCond .gt 18, 3) := by decide +kernel
theorem dX0_meetingRow_21 : decode cX0_meetingRow 21 = .ok (.aload_n 0, 1) := by decide +kernel
theorem dX0_meetingRow_22 : decode cX0_meetingRow 22 = .ok (.iload_n 2, 1) := by decide +kernel
theorem dX0_meetingRow_23 : decode cX0_meetingRow 23 = .ok (.iconst 1, 1) := by decide +kernel
theorem dX0_meetingRow_24 : decode cX0_meetingRow 24 = .ok (.isub, 1) := by decide +kernel
theorem dX0_meetingRow_25 : decode cX0_meetingRow 25 = .ok (.iload_n 1, 1) := by decide +kernel
theorem dX0_meetingRow_26 : decode cX0_meetingRow 26 = .ok (.invokevirtual 91, 3) := by decide +kernel
theorem dX0_meetingRow_29 : decode cX0_meetingRow 29 = .ok (.lconst 0, 1) := by decide +kernel
theorem dX0_meetingRow_30 : decode cX0_meetingRow 30 = .ok (.lcmp, 1) := by decide +kernel
theorem dX0_meetingRow_31 : decode cX0_meetingRow 31 = .ok (.ifCond .le 5, 3) := by decide +kernel
theorem dX0_meetingRow_34 : decode cX0_meetingRow 34 = .ok (.iload_n 2, 1) := by decide +kernel
theorem dX0_meetingRow_35 : decode cX0_meetingRow 35 = .ok (.ireturn, 1) := by decide +kernel
theorem dX0_meetingRow_36 : decode cX0_meetingRow 36 = .ok (.iinc 2 1, 3) := by decide +kernel
theorem dX0_meetingRow_39 : decode cX0_meetingRow 39 = .ok (.goto (-37), 3) := by decide +kernel
theorem dX0_meetingRow_42 : decode cX0_meetingRow 42 = .ok (.iconst (-1), 1) := by decide +kernel
theorem dX0_meetingRow_43 : decode cX0_meetingRow 43 = .ok (.ireturn, 1) := by decide +kernel
theorem dX0_excessOverLine_0 : decode cX0_excessOverLine 0 = .ok (.aload_n 0, 1) := by decide +kernel
theorem dX0_excessOverLine_1 : decode cX0_excessOverLine 1 = .ok (.getfield 13, 3) := by decide +kernel
theorem dX0_excessOverLine_4 : decode cX0_excessOverLine 4 = .ok (.iload_n 1, 1) := by decide +kernel
theorem dX0_excessOverLine_5 : decode cX0_excessOverLine 5 = .ok (.iaload, 1) := by decide +kernel
theorem dX0_excessOverLine_6 : decode cX0_excessOverLine 6 = .ok (.i2l, 1) := by decide +kernel
theorem dX0_excessOverLine_7 : decode cX0_excessOverLine 7 = .ok (.aload_n 0, 1) := by decide +kernel
theorem dX0_excessOverLine_8 : decode cX0_excessOverLine 8 = .ok (.getfield 72, 3) := by decide +kernel
theorem dX0_excessOverLine_11 : decode cX0_excessOverLine 11 = .ok (.lmul, 1) := by decide +kernel
theorem dX0_excessOverLine_12 : decode cX0_excessOverLine 12 = .ok (.aload_n 0, 1) := by decide +kernel
theorem dX0_excessOverLine_13 : decode cX0_excessOverLine 13 = .ok (.getfield 68, 3) := by decide +kernel
theorem dX0_excessOverLine_16 : decode cX0_excessOverLine 16 = .ok (.aload_n 0, 1) := by decide +kernel
theorem dX0_excessOverLine_17 : decode cX0_excessOverLine 17 = .ok (.getfield 9, 3) := by decide +kernel
theorem dX0_excessOverLine_20 : decode cX0_excessOverLine 20 = .ok (.iload_n 1, 1) := by decide +kernel
theorem dX0_excessOverLine_21 : decode cX0_excessOverLine 21 = .ok (.iaload, 1) := by decide +kernel
theorem dX0_excessOverLine_22 : decode cX0_excessOverLine 22 = .ok (.iload_n 2, 1) := by decide +kernel
theorem dX0_excessOverLine_23 : decode cX0_excessOverLine 23 = .ok (.isub, 1) := by decide +kernel
theorem dX0_excessOverLine_24 : decode cX0_excessOverLine 24 = .ok (.i2l, 1) := by decide +kernel
theorem dX0_excessOverLine_25 : decode cX0_excessOverLine 25 = .ok (.lmul, 1) := by decide +kernel
theorem dX0_excessOverLine_26 : decode cX0_excessOverLine 26 = .ok (.lsub, 1) := by decide +kernel
theorem dX0_excessOverLine_27 : decode cX0_excessOverLine 27 = .ok (.lreturn, 1) := by decide +kernel
theorem dL_peak_0 : decode cL_peak 0 = .ok (.aload_n 2, 1) := by decide +kernel
theorem dL_peak_1 : decode cL_peak 1 = .ok (.iconst 0, 1) := by decide +kernel
theorem dL_peak_2 : decode cL_peak 2 = .ok (.aload_n 0, 1) := by decide +kernel
theorem dL_peak_3 : decode cL_peak 3 = .ok (.iload_n 1, 1) := by decide +kernel
theorem dL_peak_4 : decode cL_peak 4 = .ok (.invokevirtual 33, 3) := by decide +kernel
theorem dL_peak_7 : decode cL_peak 7 = .ok (.i2l, 1) := by decide +kernel
theorem dL_peak_8 : decode cL_peak 8 = .ok (.lastore, 1) := by decide +kernel
theorem dL_peak_9 : decode cL_peak 9 = .ok (.goto 9, 3) := by decide +kernel
theorem dL_peak_12 : decode cL_peak 12 = .ok (.astore_n 3, 1) := by decide +kernel
theorem dL_peak_13 : decode cL_peak 13 = .ok (.iconst 1, 1) := by decide +kernel
theorem dL_peak_14 : decode cL_peak 14 = .ok (.ireturn, 1) := by decide +kernel
theorem dL_peak_15 : decode cL_peak 15 = .ok (.astore_n 3, 1) := by decide +kernel
theorem dL_peak_16 : decode cL_peak 16 = .ok (.iconst 2, 1) := by decide +kernel
theorem dL_peak_17 : decode cL_peak 17 = .ok (.ireturn, 1) := by decide +kernel
theorem dL_peak_18 : decode cL_peak 18 = .ok (.iconst 0, 1) := by decide +kernel
theorem dL_peak_19 : decode cL_peak 19 = .ok (.ireturn, 1) := by decide +kernel
theorem dX0_peak_0 : decode cX0_peak 0 = .ok (.iload_n 1, 1) := by decide +kernel
theorem dX0_peak_1 : decode cX0_peak 1 = .ok (.iconst 0, 1) := by decide +kernel
theorem dX0_peak_2 : decode cX0_peak 2 = .ok (.iconst 2, 1) := by decide +kernel
theorem dX0_peak_3 : decode cX0_peak 3 = .ok (.invokestatic 23, 3) := by decide +kernel
theorem dX0_peak_6 : decode cX0_peak 6 = .ok (.ifCond .ne 13, 3) := by decide +kernel
theorem dX0_peak_9 : decode cX0_peak 9 = .ok (.new 95, 3) := by decide +kernel
theorem dX0_peak_12 : decode cX0_peak 12 = .ok (.dup, 1) := by decide +kernel
theorem dX0_peak_13 : decode cX0_peak 13 = .ok (.ldc 97, 2) := by decide +kernel
theorem dX0_peak_15 : decode cX0_peak 15 = .ok (.invokespecial 99, 3) := by decide +kernel
theorem dX0_peak_18 : decode cX0_peak 18 = .ok (.athrow, 1) := by decide +kernel
theorem dX0_peak_19 : decode cX0_peak 19 = .ok (.aload_n 0, 1) := by decide +kernel
theorem dX0_peak_20 : decode cX0_peak 20 = .ok (.getfield 34, 3) := by decide +kernel
theorem dX0_peak_23 : decode cX0_peak 23 = .ok (.ifCond .ne 13, 3) := by decide +kernel
theorem dX0_peak_26 : decode cX0_peak 26 = .ok (.new 79, 3) := by decide +kernel
theorem dX0_peak_29 : decode cX0_peak 29 = .ok (.dup, 1) := by decide +kernel
theorem dX0_peak_30 : decode cX0_peak 30 = .ok (.ldc 100, 2) := by decide +kernel
theorem dX0_peak_32 : decode cX0_peak 32 = .ok (.invokespecial 83, 3) := by decide +kernel
theorem dX0_peak_35 : decode cX0_peak 35 = .ok (.athrow, 1) := by decide +kernel
theorem dX0_peak_36 : decode cX0_peak 36 = .ok (.aload_n 0, 1) := by decide +kernel
theorem dX0_peak_37 : decode cX0_peak 37 = .ok (.invokevirtual 102, 3) := by decide +kernel
theorem dX0_peak_40 : decode cX0_peak 40 = .ok (.istore_n 2, 1) := by decide +kernel
theorem dX0_peak_41 : decode cX0_peak 41 = .ok (.iload_n 1, 1) := by decide +kernel
theorem dX0_peak_42 : decode cX0_peak 42 = .ok (.ifCond .ne 10, 3) := by decide +kernel
theorem dX0_peak_45 : decode cX0_peak 45 = .ok (.aload_n 0, 1) := by decide +kernel
theorem dX0_peak_46 : decode cX0_peak 46 = .ok (.getfield 13, 3) := by decide +kernel
theorem dX0_peak_49 : decode cX0_peak 49 = .ok (.iload_n 2, 1) := by decide +kernel
theorem dX0_peak_50 : decode cX0_peak 50 = .ok (.iaload, 1) := by decide +kernel
theorem dX0_peak_51 : decode cX0_peak 51 = .ok (.ireturn, 1) := by decide +kernel
theorem dX0_peak_52 : decode cX0_peak 52 = .ok (.iload_n 1, 1) := by decide +kernel
theorem dX0_peak_53 : decode cX0_peak 53 = .ok (.iconst 1, 1) := by decide +kernel
theorem dX0_peak_54 : decode cX0_peak 54 = .ok (.if_icmp .ne 15, 3) := by decide +kernel
theorem dX0_peak_57 : decode cX0_peak 57 = .ok (.aload_n 0, 1) := by decide +kernel
theorem dX0_peak_58 : decode cX0_peak 58 = .ok (.getfield 9, 3) := by decide +kernel
theorem dX0_peak_61 : decode cX0_peak 61 = .ok (.iload_n 2, 1) := by decide +kernel
theorem dX0_peak_62 : decode cX0_peak 62 = .ok (.iaload, 1) := by decide +kernel
theorem dX0_peak_63 : decode cX0_peak 63 = .ok (.aload_n 0, 1) := by decide +kernel
theorem dX0_peak_64 : decode cX0_peak 64 = .ok (.getfield 50, 3) := by decide +kernel
theorem dX0_peak_67 : decode cX0_peak 67 = .ok (.isub, 1) := by decide +kernel
theorem dX0_peak_68 : decode cX0_peak 68 = .ok (.ireturn, 1) := by decide +kernel
theorem dX0_peak_69 : decode cX0_peak 69 = .ok (.aload_n 0, 1) := by decide +kernel
theorem dX0_peak_70 : decode cX0_peak 70 = .ok (.getfield 47, 3) := by decide +kernel
theorem dX0_peak_73 : decode cX0_peak 73 = .ok (.ifCond .ne 13, 3) := by decide +kernel
theorem dX0_peak_76 : decode cX0_peak 76 = .ok (.new 79, 3) := by decide +kernel
theorem dX0_peak_79 : decode cX0_peak 79 = .ok (.dup, 1) := by decide +kernel
theorem dX0_peak_80 : decode cX0_peak 80 = .ok (.ldc 106, 2) := by decide +kernel
theorem dX0_peak_82 : decode cX0_peak 82 = .ok (.invokespecial 83, 3) := by decide +kernel
theorem dX0_peak_85 : decode cX0_peak 85 = .ok (.athrow, 1) := by decide +kernel
theorem dX0_peak_86 : decode cX0_peak 86 = .ok (.aload_n 0, 1) := by decide +kernel
theorem dX0_peak_87 : decode cX0_peak 87 = .ok (.getfield 13, 3) := by decide +kernel
theorem dX0_peak_90 : decode cX0_peak 90 = .ok (.iload_n 2, 1) := by decide +kernel
theorem dX0_peak_91 : decode cX0_peak 91 = .ok (.iaload, 1) := by decide +kernel
theorem dX0_peak_92 : decode cX0_peak 92 = .ok (.sipush 1000, 3) := by decide +kernel
theorem dX0_peak_95 : decode cX0_peak 95 = .ok (.imul, 1) := by decide +kernel
theorem dX0_peak_96 : decode cX0_peak 96 = .ok (.aload_n 0, 1) := by decide +kernel
theorem dX0_peak_97 : decode cX0_peak 97 = .ok (.getfield 47, 3) := by decide +kernel
theorem dX0_peak_100 : decode cX0_peak 100 = .ok (.idiv, 1) := by decide +kernel
theorem dX0_peak_101 : decode cX0_peak 101 = .ok (.ireturn, 1) := by decide +kernel
theorem dL_stretch_0 : decode cL_stretch 0 = .ok (.aload 4, 2) := by decide +kernel
theorem dL_stretch_2 : decode cL_stretch 2 = .ok (.iconst 0, 1) := by decide +kernel
theorem dL_stretch_3 : decode cL_stretch 3 = .ok (.aload_n 0, 1) := by decide +kernel
theorem dL_stretch_4 : decode cL_stretch 4 = .ok (.iload_n 1, 1) := by decide +kernel
theorem dL_stretch_5 : decode cL_stretch 5 = .ok (.iload_n 2, 1) := by decide +kernel
theorem dL_stretch_6 : decode cL_stretch 6 = .ok (.iload_n 3, 1) := by decide +kernel
theorem dL_stretch_7 : decode cL_stretch 7 = .ok (.invokevirtual 37, 3) := by decide +kernel
theorem dL_stretch_10 : decode cL_stretch 10 = .ok (.lastore, 1) := by decide +kernel
theorem dL_stretch_11 : decode cL_stretch 11 = .ok (.goto 11, 3) := by decide +kernel
theorem dL_stretch_14 : decode cL_stretch 14 = .ok (.astore 5, 2) := by decide +kernel
theorem dL_stretch_16 : decode cL_stretch 16 = .ok (.iconst 1, 1) := by decide +kernel
theorem dL_stretch_17 : decode cL_stretch 17 = .ok (.ireturn, 1) := by decide +kernel
theorem dL_stretch_18 : decode cL_stretch 18 = .ok (.astore 5, 2) := by decide +kernel
theorem dL_stretch_20 : decode cL_stretch 20 = .ok (.iconst 2, 1) := by decide +kernel
theorem dL_stretch_21 : decode cL_stretch 21 = .ok (.ireturn, 1) := by decide +kernel
theorem dL_stretch_22 : decode cL_stretch 22 = .ok (.iconst 0, 1) := by decide +kernel
theorem dL_stretch_23 : decode cL_stretch 23 = .ok (.ireturn, 1) := by decide +kernel
theorem dX0_stretch_0 : decode cX0_stretch 0 = .ok (.iload_n 3, 1) := by decide +kernel
theorem dX0_stretch_1 : decode cX0_stretch 1 = .ok (.invokestatic 53, 3) := by decide +kernel
theorem dX0_stretch_4 : decode cX0_stretch 4 = .ok (.iload_n 1, 1) := by decide +kernel
theorem dX0_stretch_5 : decode cX0_stretch 5 = .ok (.iconst 1, 1) := by decide +kernel
theorem dX0_stretch_6 : decode cX0_stretch 6 = .ok (.ldc 22, 2) := by decide +kernel
theorem dX0_stretch_8 : decode cX0_stretch 8 = .ok (.invokestatic 23, 3) := by decide +kernel
theorem dX0_stretch_11 : decode cX0_stretch 11 = .ok (.ifCond .eq 13, 3) := by decide +kernel
theorem dX0_stretch_14 : decode cX0_stretch 14 = .ok (.iload_n 2, 1) := by decide +kernel
theorem dX0_stretch_15 : decode cX0_stretch 15 = .ok (.iconst 1, 1) := by decide +kernel
theorem dX0_stretch_16 : decode cX0_stretch 16 = .ok (.ldc 22, 2) := by decide +kernel
theorem dX0_stretch_18 : decode cX0_stretch 18 = .ok (.invokestatic 23, 3) := by decide +kernel
theorem dX0_stretch_21 : decode cX0_stretch 21 = .ok (.ifCond .ne 13, 3) := by decide +kernel
theorem dX0_stretch_24 : decode cX0_stretch 24 = .ok (.new 27, 3) := by decide +kernel
theorem dX0_stretch_27 : decode cX0_stretch 27 = .ok (.dup, 1) := by decide +kernel
theorem dX0_stretch_28 : decode cX0_stretch 28 = .ok (.ldc 108, 2) := by decide +kernel
theorem dX0_stretch_30 : decode cX0_stretch 30 = .ok (.invokespecial 31, 3) := by decide +kernel
theorem dX0_stretch_33 : decode cX0_stretch 33 = .ok (.athrow, 1) := by decide +kernel
theorem dX0_stretch_34 : decode cX0_stretch 34 = .ok (.iload_n 2, 1) := by decide +kernel
theorem dX0_stretch_35 : decode cX0_stretch 35 = .ok (.iload_n 1, 1) := by decide +kernel
theorem dX0_stretch_36 : decode cX0_stretch 36 = .ok (.isub, 1) := by decide +kernel
theorem dX0_stretch_37 : decode cX0_stretch 37 = .ok (.i2l, 1) := by decide +kernel
theorem dX0_stretch_38 : decode cX0_stretch 38 = .ok (.iload_n 1, 1) := by decide +kernel
theorem dX0_stretch_39 : decode cX0_stretch 39 = .ok (.i2l, 1) := by decide +kernel
theorem dX0_stretch_40 : decode cX0_stretch 40 = .ok (.iload_n 3, 1) := by decide +kernel
theorem dX0_stretch_41 : decode cX0_stretch 41 = .ok (.invokestatic 75, 3) := by decide +kernel
theorem dX0_stretch_44 : decode cX0_stretch 44 = .ok (.lreturn, 1) := by decide +kernel
theorem dL_impact_0 : decode cL_impact 0 = .ok (.aload_n 3, 1) := by decide +kernel
theorem dL_impact_1 : decode cL_impact 1 = .ok (.iconst 0, 1) := by decide +kernel
theorem dL_impact_2 : decode cL_impact 2 = .ok (.aload_n 0, 1) := by decide +kernel
theorem dL_impact_3 : decode cL_impact 3 = .ok (.iload_n 1, 1) := by decide +kernel
theorem dL_impact_4 : decode cL_impact 4 = .ok (.iload_n 2, 1) := by decide +kernel
theorem dL_impact_5 : decode cL_impact 5 = .ok (.invokevirtual 40, 3) := by decide +kernel
theorem dL_impact_8 : decode cL_impact 8 = .ok (.i2l, 1) := by decide +kernel
theorem dL_impact_9 : decode cL_impact 9 = .ok (.lastore, 1) := by decide +kernel
theorem dL_impact_10 : decode cL_impact 10 = .ok (.goto 11, 3) := by decide +kernel
theorem dL_impact_13 : decode cL_impact 13 = .ok (.astore 4, 2) := by decide +kernel
theorem dL_impact_15 : decode cL_impact 15 = .ok (.iconst 1, 1) := by decide +kernel
theorem dL_impact_16 : decode cL_impact 16 = .ok (.ireturn, 1) := by decide +kernel
theorem dL_impact_17 : decode cL_impact 17 = .ok (.astore 4, 2) := by decide +kernel
theorem dL_impact_19 : decode cL_impact 19 = .ok (.iconst 2, 1) := by decide +kernel
theorem dL_impact_20 : decode cL_impact 20 = .ok (.ireturn, 1) := by decide +kernel
theorem dL_impact_21 : decode cL_impact 21 = .ok (.iconst 0, 1) := by decide +kernel
theorem dL_impact_22 : decode cL_impact 22 = .ok (.ireturn, 1) := by decide +kernel
theorem dX0_impact_0 : decode cX0_impact 0 = .ok (.iload_n 1, 1) := by decide +kernel
theorem dX0_impact_1 : decode cX0_impact 1 = .ok (.sipush (-200), 3) := by decide +kernel
theorem dX0_impact_4 : decode cX0_impact 4 = .ok (.sipush 200, 3) := by decide +kernel
theorem dX0_impact_7 : decode cX0_impact 7 = .ok (.invokestatic 23, 3) := by decide +kernel
theorem dX0_impact_10 : decode cX0_impact 10 = .ok (.ifCond .eq 14, 3) := by decide +kernel
theorem dX0_impact_13 : decode cX0_impact 13 = .ok (.iload_n 2, 1) := by decide +kernel
theorem dX0_impact_14 : decode cX0_impact 14 = .ok (.iconst 0, 1) := by decide +kernel
theorem dX0_impact_15 : decode cX0_impact 15 = .ok (.sipush 400, 3) := by decide +kernel
theorem dX0_impact_18 : decode cX0_impact 18 = .ok (.invokestatic 23, 3) := by decide +kernel
theorem dX0_impact_21 : decode cX0_impact 21 = .ok (.ifCond .ne 13, 3) := by decide +kernel
theorem dX0_impact_24 : decode cX0_impact 24 = .ok (.new 27, 3) := by decide +kernel
theorem dX0_impact_27 : decode cX0_impact 27 = .ok (.dup, 1) := by decide +kernel
theorem dX0_impact_28 : decode cX0_impact 28 = .ok (.ldc 110, 2) := by decide +kernel
theorem dX0_impact_30 : decode cX0_impact 30 = .ok (.invokespecial 31, 3) := by decide +kernel
theorem dX0_impact_33 : decode cX0_impact 33 = .ok (.athrow, 1) := by decide +kernel
theorem dX0_impact_34 : decode cX0_impact 34 = .ok (.aload_n 0, 1) := by decide +kernel
theorem dX0_impact_35 : decode cX0_impact 35 = .ok (.getfield 112, 3) := by decide +kernel
theorem dX0_impact_38 : decode cX0_impact 38 = .ok (.bipush 8, 2) := by decide +kernel
theorem dX0_impact_40 : decode cX0_impact 40 = .ok (.if_icmp .lt 13, 3) := by decide +kernel
theorem dX0_impact_43 : decode cX0_impact 43 = .ok (.new 40, 3) := by decide +kernel
theorem dX0_impact_46 : decode cX0_impact 46 = .ok (.dup, 1) := by decide +kernel
theorem dX0_impact_47 : decode cX0_impact 47 = .ok (.ldc 115, 2) := by decide +kernel
theorem dX0_impact_49 : decode cX0_impact 49 = .ok (.invokespecial 44, 3) := by decide +kernel
theorem dX0_impact_52 : decode cX0_impact 52 = .ok (.athrow, 1) := by decide +kernel
theorem dX0_impact_53 : decode cX0_impact 53 = .ok (.aload_n 0, 1) := by decide +kernel
theorem dX0_impact_54 : decode cX0_impact 54 = .ok (.dup, 1) := by decide +kernel
theorem dX0_impact_55 : decode cX0_impact 55 = .ok (.getfield 112, 3) := by decide +kernel
theorem dX0_impact_58 : decode cX0_impact 58 = .ok (.iconst 1, 1) := by decide +kernel
theorem dX0_impact_59 : decode cX0_impact 59 = .ok (.iadd, 1) := by decide +kernel
theorem dX0_impact_60 : decode cX0_impact 60 = .ok (.putfield 112, 3) := by decide +kernel
theorem dX0_impact_63 : decode cX0_impact 63 = .ok (.aload_n 0, 1) := by decide +kernel
theorem dX0_impact_64 : decode cX0_impact 64 = .ok (.dup, 1) := by decide +kernel
theorem dX0_impact_65 : decode cX0_impact 65 = .ok (.getfield 117, 3) := by decide +kernel
theorem dX0_impact_68 : decode cX0_impact 68 = .ok (.iload_n 1, 1) := by decide +kernel
theorem dX0_impact_69 : decode cX0_impact 69 = .ok (.i2l, 1) := by decide +kernel
theorem dX0_impact_70 : decode cX0_impact 70 = .ok (.ladd, 1) := by decide +kernel
theorem dX0_impact_71 : decode cX0_impact 71 = .ok (.putfield 117, 3) := by decide +kernel
theorem dX0_impact_74 : decode cX0_impact 74 = .ok (.aload_n 0, 1) := by decide +kernel
theorem dX0_impact_75 : decode cX0_impact 75 = .ok (.dup, 1) := by decide +kernel
theorem dX0_impact_76 : decode cX0_impact 76 = .ok (.getfield 120, 3) := by decide +kernel
theorem dX0_impact_79 : decode cX0_impact 79 = .ok (.iload_n 2, 1) := by decide +kernel
theorem dX0_impact_80 : decode cX0_impact 80 = .ok (.i2l, 1) := by decide +kernel
theorem dX0_impact_81 : decode cX0_impact 81 = .ok (.ladd, 1) := by decide +kernel
theorem dX0_impact_82 : decode cX0_impact 82 = .ok (.putfield 120, 3) := by decide +kernel
theorem dX0_impact_85 : decode cX0_impact 85 = .ok (.aload_n 0, 1) := by decide +kernel
theorem dX0_impact_86 : decode cX0_impact 86 = .ok (.dup, 1) := by decide +kernel
theorem dX0_impact_87 : decode cX0_impact 87 = .ok (.getfield 123, 3) := by decide +kernel
theorem dX0_impact_90 : decode cX0_impact 90 = .ok (.iload_n 1, 1) := by decide +kernel
theorem dX0_impact_91 : decode cX0_impact 91 = .ok (.iload_n 2, 1) := by decide +kernel
theorem dX0_impact_92 : decode cX0_impact 92 = .ok (.imul, 1) := by decide +kernel
theorem dX0_impact_93 : decode cX0_impact 93 = .ok (.i2l, 1) := by decide +kernel
theorem dX0_impact_94 : decode cX0_impact 94 = .ok (.ladd, 1) := by decide +kernel
theorem dX0_impact_95 : decode cX0_impact 95 = .ok (.putfield 123, 3) := by decide +kernel
theorem dX0_impact_98 : decode cX0_impact 98 = .ok (.aload_n 0, 1) := by decide +kernel
theorem dX0_impact_99 : decode cX0_impact 99 = .ok (.dup, 1) := by decide +kernel
theorem dX0_impact_100 : decode cX0_impact 100 = .ok (.getfield 126, 3) := by decide +kernel
theorem dX0_impact_103 : decode cX0_impact 103 = .ok (.iload_n 1, 1) := by decide +kernel
theorem dX0_impact_104 : decode cX0_impact 104 = .ok (.iload_n 1, 1) := by decide +kernel
theorem dX0_impact_105 : decode cX0_impact 105 = .ok (.imul, 1) := by decide +kernel
theorem dX0_impact_106 : decode cX0_impact 106 = .ok (.i2l, 1) := by decide +kernel
theorem dX0_impact_107 : decode cX0_impact 107 = .ok (.ladd, 1) := by decide +kernel
theorem dX0_impact_108 : decode cX0_impact 108 = .ok (.putfield 126, 3) := by decide +kernel
theorem dX0_impact_111 : decode cX0_impact 111 = .ok (.aload_n 0, 1) := by decide +kernel
theorem dX0_impact_112 : decode cX0_impact 112 = .ok (.getfield 112, 3) := by decide +kernel
theorem dX0_impact_115 : decode cX0_impact 115 = .ok (.ireturn, 1) := by decide +kernel
theorem dL_fitted_0 : decode cL_fitted 0 = .ok (.aload_n 3, 1) := by decide +kernel
theorem dL_fitted_1 : decode cL_fitted 1 = .ok (.iconst 0, 1) := by decide +kernel
theorem dL_fitted_2 : decode cL_fitted 2 = .ok (.aload_n 0, 1) := by decide +kernel
theorem dL_fitted_3 : decode cL_fitted 3 = .ok (.iload_n 1, 1) := by decide +kernel
theorem dL_fitted_4 : decode cL_fitted 4 = .ok (.iload_n 2, 1) := by decide +kernel
theorem dL_fitted_5 : decode cL_fitted 5 = .ok (.invokevirtual 43, 3) := by decide +kernel
theorem dL_fitted_8 : decode cL_fitted 8 = .ok (.lastore, 1) := by decide +kernel
theorem dL_fitted_9 : decode cL_fitted 9 = .ok (.goto 15, 3) := by decide +kernel
theorem dL_fitted_12 : decode cL_fitted 12 = .ok (.astore 4, 2) := by decide +kernel
theorem dL_fitted_14 : decode cL_fitted 14 = .ok (.iconst 1, 1) := by decide +kernel
theorem dL_fitted_15 : decode cL_fitted 15 = .ok (.ireturn, 1) := by decide +kernel
theorem dL_fitted_16 : decode cL_fitted 16 = .ok (.astore 4, 2) := by decide +kernel
theorem dL_fitted_18 : decode cL_fitted 18 = .ok (.iconst 2, 1) := by decide +kernel
theorem dL_fitted_19 : decode cL_fitted 19 = .ok (.ireturn, 1) := by decide +kernel
theorem dL_fitted_20 : decode cL_fitted 20 = .ok (.astore 4, 2) := by decide +kernel
theorem dL_fitted_22 : decode cL_fitted 22 = .ok (.iconst 3, 1) := by decide +kernel
theorem dL_fitted_23 : decode cL_fitted 23 = .ok (.ireturn, 1) := by decide +kernel
theorem dL_fitted_24 : decode cL_fitted 24 = .ok (.iconst 0, 1) := by decide +kernel
theorem dL_fitted_25 : decode cL_fitted 25 = .ok (.ireturn, 1) := by decide +kernel
theorem dX0_fitted_0 : decode cX0_fitted 0 = .ok (.iload_n 2, 1) := by decide +kernel
theorem dX0_fitted_1 : decode cX0_fitted 1 = .ok (.invokestatic 53, 3) := by decide +kernel
theorem dX0_fitted_4 : decode cX0_fitted 4 = .ok (.aload_n 0, 1) := by decide +kernel
theorem dX0_fitted_5 : decode cX0_fitted 5 = .ok (.getfield 112, 3) := by decide +kernel
theorem dX0_fitted_8 : decode cX0_fitted 8 = .ok (.i2l, 1) := by decide +kernel
theorem dX0_fitted_9 : decode cX0_fitted 9 = .ok (.aload_n 0, 1) := by decide +kernel
theorem dX0_fitted_10 : decode cX0_fitted 10 = .ok (.getfield 126, 3) := by decide +kernel
