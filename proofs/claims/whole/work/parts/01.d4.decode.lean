theorem dX1_offset_31 : decode cX1_offset 31 = .ok (.getfield 44, 3) := by decide +kernel
theorem dX1_offset_34 : decode cX1_offset 34 = .ok (.if_icmp .ge 75, 3) := by decide +kernel
theorem dX1_offset_37 : decode cX1_offset 37 = .ok (.aload_n 0, 1) := by decide +kernel
theorem dX1_offset_38 : decode cX1_offset 38 = .ok (.iload_n 3, 1) := by decide +kernel
theorem dX1_offset_39 : decode cX1_offset 39 = .ok (.iconst 1, 1) := by decide +kernel
theorem dX1_offset_40 : decode cX1_offset 40 = .ok (.isub, 1) := by decide +kernel
theorem dX1_offset_41 : decode cX1_offset 41 = .ok (.iload_n 1, 1) := by decide +kernel
theorem dX1_offset_42 : decode cX1_offset 42 = .ok (.invokevirtual 71, 3) := by decide +kernel
theorem dX1_offset_45 : decode cX1_offset 45 = .ok (.lstore 4, 2) := by decide +kernel
theorem dX1_offset_47 : decode cX1_offset 47 = .ok (.aload_n 0, 1) := by decide +kernel
theorem dX1_offset_48 : decode cX1_offset 48 = .ok (.iload_n 3, 1) := by decide +kernel
theorem dX1_offset_49 : decode cX1_offset 49 = .ok (.iload_n 1, 1) := by decide +kernel
theorem dX1_offset_50 : decode cX1_offset 50 = .ok (.invokevirtual 71, 3) := by decide +kernel
theorem dX1_offset_53 : decode cX1_offset 53 = .ok (.lstore 6, 2) := by decide +kernel
theorem dX1_offset_55 : decode cX1_offset 55 = .ok (.lload 4, 2) := by decide +kernel
theorem dX1_offset_57 : decode cX1_offset 57 = .ok (.lconst 0, 1) := by decide +kernel
theorem dX1_offset_58 : decode cX1_offset 58 = .ok (.lcmp, 1) := by decide +kernel
theorem dX1_offset_59 : decode cX1_offset 59 = .ok (.ifCond .le 44, 3) := by decide +kernel
theorem dX1_offset_62 : decode cX1_offset 62 = .ok (.lload 6, 2) := by decide +kernel
theorem dX1_offset_64 : decode cX1_offset 64 = .ok (.lconst 0, 1) := by decide +kernel
theorem dX1_offset_65 : decode cX1_offset 65 = .ok (.lcmp, 1) := by decide +kernel
theorem dX1_offset_66 : decode cX1_offset 66 = .ok (.ifCond .gt 37, 3) := by decide +kernel
theorem dX1_offset_69 : decode cX1_offset 69 = .ok (.aload_n 0, 1) := by decide +kernel
theorem dX1_offset_70 : decode cX1_offset 70 = .ok (.aload_n 0, 1) := by decide +kernel
theorem dX1_offset_71 : decode cX1_offset 71 = .ok (.getfield 13, 3) := by decide +kernel
theorem dX1_offset_74 : decode cX1_offset 74 = .ok (.iload_n 3, 1) := by decide +kernel
theorem dX1_offset_75 : decode cX1_offset 75 = .ok (.iaload, 1) := by decide +kernel
theorem dX1_offset_76 : decode cX1_offset 76 = .ok (.i2l, 1) := by decide +kernel
theorem dX1_offset_77 : decode cX1_offset 77 = .ok (.lload 4, 2) := by decide +kernel
theorem dX1_offset_79 : decode cX1_offset 79 = .ok (.lmul, 1) := by decide +kernel
theorem dX1_offset_80 : decode cX1_offset 80 = .ok (.aload_n 0, 1) := by decide +kernel
theorem dX1_offset_81 : decode cX1_offset 81 = .ok (.getfield 13, 3) := by decide +kernel
theorem dX1_offset_84 : decode cX1_offset 84 = .ok (.iload_n 3, 1) := by decide +kernel
theorem dX1_offset_85 : decode cX1_offset 85 = .ok (.iconst 1, 1) := by decide +kernel
theorem dX1_offset_86 : decode cX1_offset 86 = .ok (.isub, 1) := by decide +kernel
theorem dX1_offset_87 : decode cX1_offset 87 = .ok (.iaload, 1) := by decide +kernel
theorem dX1_offset_88 : decode cX1_offset 88 = .ok (.i2l, 1) := by decide +kernel
theorem dX1_offset_89 : decode cX1_offset 89 = .ok (.lload 6, 2) := by decide +kernel
theorem dX1_offset_91 : decode cX1_offset 91 = .ok (.lmul, 1) := by decide +kernel
theorem dX1_offset_92 : decode cX1_offset 92 = .ok (.lsub, 1) := by decide +kernel
theorem dX1_offset_93 : decode cX1_offset 93 = .ok (.lload 4, 2) := by decide +kernel
theorem dX1_offset_95 : decode cX1_offset 95 = .ok (.lload 6, 2) := by decide +kernel
theorem dX1_offset_97 : decode cX1_offset 97 = .ok (.lsub, 1) := by decide +kernel
theorem dX1_offset_98 : decode cX1_offset 98 = .ok (.iload_n 2, 1) := by decide +kernel
theorem dX1_offset_99 : decode cX1_offset 99 = .ok (.invokevirtual 57, 3) := by decide +kernel
theorem dX1_offset_102 : decode cX1_offset 102 = .ok (.lreturn, 1) := by decide +kernel
theorem dX1_offset_103 : decode cX1_offset 103 = .ok (.iinc 3 1, 3) := by decide +kernel
theorem dX1_offset_106 : decode cX1_offset 106 = .ok (.goto (-77), 3) := by decide +kernel
theorem dX1_offset_109 : decode cX1_offset 109 = .ok (.iload_n 2, 1) := by decide +kernel
theorem dX1_offset_110 : decode cX1_offset 110 = .ok (.ifCond .ne 9, 3) := by decide +kernel
theorem dX1_offset_113 : decode cX1_offset 113 = .ok (.ldc2_w 75, 3) := by decide +kernel
theorem dX1_offset_116 : decode cX1_offset 116 = .ok (.goto 4, 3) := by decide +kernel
theorem dX1_offset_119 : decode cX1_offset 119 = .ok (.lconst 0, 1) := by decide +kernel
theorem dX1_offset_120 : decode cX1_offset 120 = .ok (.lreturn, 1) := by decide +kernel
theorem dX1_above_0 : decode cX1_above 0 = .ok (.aload_n 0, 1) := by decide +kernel
theorem dX1_above_1 : decode cX1_above 1 = .ok (.getfield 13, 3) := by decide +kernel
theorem dX1_above_4 : decode cX1_above 4 = .ok (.iload_n 1, 1) := by decide +kernel
theorem dX1_above_5 : decode cX1_above 5 = .ok (.iaload, 1) := by decide +kernel
theorem dX1_above_6 : decode cX1_above 6 = .ok (.i2l, 1) := by decide +kernel
theorem dX1_above_7 : decode cX1_above 7 = .ok (.aload_n 0, 1) := by decide +kernel
theorem dX1_above_8 : decode cX1_above 8 = .ok (.getfield 68, 3) := by decide +kernel
theorem dX1_above_11 : decode cX1_above 11 = .ok (.lmul, 1) := by decide +kernel
theorem dX1_above_12 : decode cX1_above 12 = .ok (.aload_n 0, 1) := by decide +kernel
theorem dX1_above_13 : decode cX1_above 13 = .ok (.getfield 65, 3) := by decide +kernel
theorem dX1_above_16 : decode cX1_above 16 = .ok (.aload_n 0, 1) := by decide +kernel
theorem dX1_above_17 : decode cX1_above 17 = .ok (.getfield 7, 3) := by decide +kernel
theorem dX1_above_20 : decode cX1_above 20 = .ok (.iload_n 1, 1) := by decide +kernel
theorem dX1_above_21 : decode cX1_above 21 = .ok (.iaload, 1) := by decide +kernel
theorem dX1_above_22 : decode cX1_above 22 = .ok (.aload_n 0, 1) := by decide +kernel
theorem dX1_above_23 : decode cX1_above 23 = .ok (.getfield 54, 3) := by decide +kernel
theorem dX1_above_26 : decode cX1_above 26 = .ok (.isub, 1) := by decide +kernel
theorem dX1_above_27 : decode cX1_above 27 = .ok (.iload_n 2, 1) := by decide +kernel
theorem dX1_above_28 : decode cX1_above 28 = .ok (.isub, 1) := by decide +kernel
theorem dX1_above_29 : decode cX1_above 29 = .ok (.i2l, 1) := by decide +kernel
theorem dX1_above_30 : decode cX1_above 30 = .ok (.lmul, 1) := by decide +kernel
theorem dX1_above_31 : decode cX1_above 31 = .ok (.lsub, 1) := by decide +kernel
theorem dX1_above_32 : decode cX1_above 32 = .ok (.lreturn, 1) := by decide +kernel
theorem dX1_peak_0 : decode cX1_peak 0 = .ok (.aload_n 0, 1) := by decide +kernel
theorem dX1_peak_1 : decode cX1_peak 1 = .ok (.iload_n 1, 1) := by decide +kernel
theorem dX1_peak_2 : decode cX1_peak 2 = .ok (.iconst 0, 1) := by decide +kernel
theorem dX1_peak_3 : decode cX1_peak 3 = .ok (.iconst 2, 1) := by decide +kernel
theorem dX1_peak_4 : decode cX1_peak 4 = .ok (.invokestatic 40, 3) := by decide +kernel
theorem dX1_peak_7 : decode cX1_peak 7 = .ok (.aload_n 0, 1) := by decide +kernel
theorem dX1_peak_8 : decode cX1_peak 8 = .ok (.getfield 44, 3) := by decide +kernel
theorem dX1_peak_11 : decode cX1_peak 11 = .ok (.ifCond .le 19, 3) := by decide +kernel
theorem dX1_peak_14 : decode cX1_peak 14 = .ok (.iload_n 1, 1) := by decide +kernel
theorem dX1_peak_15 : decode cX1_peak 15 = .ok (.iconst 2, 1) := by decide +kernel
theorem dX1_peak_16 : decode cX1_peak 16 = .ok (.if_icmp .ne 10, 3) := by decide +kernel
theorem dX1_peak_19 : decode cX1_peak 19 = .ok (.aload_n 0, 1) := by decide +kernel
theorem dX1_peak_20 : decode cX1_peak 20 = .ok (.getfield 51, 3) := by decide +kernel
theorem dX1_peak_23 : decode cX1_peak 23 = .ok (.ifCond .le 7, 3) := by decide +kernel
theorem dX1_peak_26 : decode cX1_peak 26 = .ok (.iconst 1, 1) := by decide +kernel
theorem dX1_peak_27 : decode cX1_peak 27 = .ok (.goto 4, 3) := by decide +kernel
theorem dX1_peak_30 : decode cX1_peak 30 = .ok (.iconst 0, 1) := by decide +kernel
theorem dX1_peak_31 : decode cX1_peak 31 = .ok (.iconst 1, 1) := by decide +kernel
theorem dX1_peak_32 : decode cX1_peak 32 = .ok (.iconst 1, 1) := by decide +kernel
theorem dX1_peak_33 : decode cX1_peak 33 = .ok (.invokevirtual 47, 3) := by decide +kernel
theorem dX1_peak_36 : decode cX1_peak 36 = .ok (.ifCond .ne 5, 3) := by decide +kernel
theorem dX1_peak_39 : decode cX1_peak 39 = .ok (.iconst 0, 1) := by decide +kernel
theorem dX1_peak_40 : decode cX1_peak 40 = .ok (.ireturn, 1) := by decide +kernel
theorem dX1_peak_41 : decode cX1_peak 41 = .ok (.aload_n 0, 1) := by decide +kernel
theorem dX1_peak_42 : decode cX1_peak 42 = .ok (.invokevirtual 77, 3) := by decide +kernel
theorem dX1_peak_45 : decode cX1_peak 45 = .ok (.istore_n 2, 1) := by decide +kernel
theorem dX1_peak_46 : decode cX1_peak 46 = .ok (.iload_n 1, 1) := by decide +kernel
theorem dX1_peak_47 : decode cX1_peak 47 = .ok (.ifCond .ne 12, 3) := by decide +kernel
theorem dX1_peak_50 : decode cX1_peak 50 = .ok (.aload_n 0, 1) := by decide +kernel
theorem dX1_peak_51 : decode cX1_peak 51 = .ok (.getfield 13, 3) := by decide +kernel
theorem dX1_peak_54 : decode cX1_peak 54 = .ok (.iload_n 2, 1) := by decide +kernel
theorem dX1_peak_55 : decode cX1_peak 55 = .ok (.iaload, 1) := by decide +kernel
theorem dX1_peak_56 : decode cX1_peak 56 = .ok (.goto 37, 3) := by decide +kernel
theorem dX1_peak_59 : decode cX1_peak 59 = .ok (.iload_n 1, 1) := by decide +kernel
theorem dX1_peak_60 : decode cX1_peak 60 = .ok (.iconst 1, 1) := by decide +kernel
theorem dX1_peak_61 : decode cX1_peak 61 = .ok (.if_icmp .ne 17, 3) := by decide +kernel
theorem dX1_peak_64 : decode cX1_peak 64 = .ok (.aload_n 0, 1) := by decide +kernel
theorem dX1_peak_65 : decode cX1_peak 65 = .ok (.getfield 7, 3) := by decide +kernel
theorem dX1_peak_68 : decode cX1_peak 68 = .ok (.iload_n 2, 1) := by decide +kernel
theorem dX1_peak_69 : decode cX1_peak 69 = .ok (.iaload, 1) := by decide +kernel
theorem dX1_peak_70 : decode cX1_peak 70 = .ok (.aload_n 0, 1) := by decide +kernel
theorem dX1_peak_71 : decode cX1_peak 71 = .ok (.getfield 54, 3) := by decide +kernel
theorem dX1_peak_74 : decode cX1_peak 74 = .ok (.isub, 1) := by decide +kernel
theorem dX1_peak_75 : decode cX1_peak 75 = .ok (.goto 18, 3) := by decide +kernel
theorem dX1_peak_78 : decode cX1_peak 78 = .ok (.aload_n 0, 1) := by decide +kernel
theorem dX1_peak_79 : decode cX1_peak 79 = .ok (.getfield 13, 3) := by decide +kernel
theorem dX1_peak_82 : decode cX1_peak 82 = .ok (.iload_n 2, 1) := by decide +kernel
theorem dX1_peak_83 : decode cX1_peak 83 = .ok (.iaload, 1) := by decide +kernel
theorem dX1_peak_84 : decode cX1_peak 84 = .ok (.sipush 1000, 3) := by decide +kernel
theorem dX1_peak_87 : decode cX1_peak 87 = .ok (.imul, 1) := by decide +kernel
theorem dX1_peak_88 : decode cX1_peak 88 = .ok (.aload_n 0, 1) := by decide +kernel
theorem dX1_peak_89 : decode cX1_peak 89 = .ok (.getfield 51, 3) := by decide +kernel
theorem dX1_peak_92 : decode cX1_peak 92 = .ok (.idiv, 1) := by decide +kernel
theorem dX1_peak_93 : decode cX1_peak 93 = .ok (.ireturn, 1) := by decide +kernel
theorem dX1_peakRow_0 : decode cX1_peakRow 0 = .ok (.iconst 0, 1) := by decide +kernel
theorem dX1_peakRow_1 : decode cX1_peakRow 1 = .ok (.istore_n 1, 1) := by decide +kernel
theorem dX1_peakRow_2 : decode cX1_peakRow 2 = .ok (.iconst 1, 1) := by decide +kernel
theorem dX1_peakRow_3 : decode cX1_peakRow 3 = .ok (.istore_n 2, 1) := by decide +kernel
theorem dX1_peakRow_4 : decode cX1_peakRow 4 = .ok (.iload_n 2, 1) := by decide +kernel
theorem dX1_peakRow_5 : decode cX1_peakRow 5 = .ok (.aload_n 0, 1) := by decide +kernel
theorem dX1_peakRow_6 : decode cX1_peakRow 6 = .ok (.getfield 44, 3) := by decide +kernel
theorem dX1_peakRow_9 : decode cX1_peakRow 9 = .ok (.if_icmp .ge 26, 3) := by decide +kernel
theorem dX1_peakRow_12 : decode cX1_peakRow 12 = .ok (.aload_n 0, 1) := by decide +kernel
theorem dX1_peakRow_13 : decode cX1_peakRow 13 = .ok (.getfield 13, 3) := by decide +kernel
theorem dX1_peakRow_16 : decode cX1_peakRow 16 = .ok (.iload_n 2, 1) := by decide +kernel
theorem dX1_peakRow_17 : decode cX1_peakRow 17 = .ok (.iaload, 1) := by decide +kernel
theorem dX1_peakRow_18 : decode cX1_peakRow 18 = .ok (.aload_n 0, 1) := by decide +kernel
theorem dX1_peakRow_19 : decode cX1_peakRow 19 = .ok (.getfield 13, 3) := by decide +kernel
theorem dX1_peakRow_22 : decode cX1_peakRow 22 = .ok (.iload_n 1, 1) := by decide +kernel
theorem dX1_peakRow_23 : decode cX1_peakRow 23 = .ok (.iaload, 1) := by decide +kernel
theorem dX1_peakRow_24 : decode cX1_peakRow 24 = .ok (.if_icmp .le 5, 3) := by decide +kernel
theorem dX1_peakRow_27 : decode cX1_peakRow 27 = .ok (.iload_n 2, 1) := by decide +kernel
theorem dX1_peakRow_28 : decode cX1_peakRow 28 = .ok (.istore_n 1, 1) := by decide +kernel
theorem dX1_peakRow_29 : decode cX1_peakRow 29 = .ok (.iinc 2 1, 3) := by decide +kernel
theorem dX1_peakRow_32 : decode cX1_peakRow 32 = .ok (.goto (-28), 3) := by decide +kernel
theorem dX1_peakRow_35 : decode cX1_peakRow 35 = .ok (.iload_n 1, 1) := by decide +kernel
theorem dX1_peakRow_36 : decode cX1_peakRow 36 = .ok (.ireturn, 1) := by decide +kernel
theorem dX1_stretch_0 : decode cX1_stretch 0 = .ok (.aload_n 0, 1) := by decide +kernel
theorem dX1_stretch_1 : decode cX1_stretch 1 = .ok (.iload_n 3, 1) := by decide +kernel
theorem dX1_stretch_2 : decode cX1_stretch 2 = .ok (.iconst 0, 1) := by decide +kernel
theorem dX1_stretch_3 : decode cX1_stretch 3 = .ok (.iconst 1, 1) := by decide +kernel
theorem dX1_stretch_4 : decode cX1_stretch 4 = .ok (.invokestatic 40, 3) := by decide +kernel
theorem dX1_stretch_7 : decode cX1_stretch 7 = .ok (.iload_n 1, 1) := by decide +kernel
theorem dX1_stretch_8 : decode cX1_stretch 8 = .ok (.iconst 1, 1) := by decide +kernel
theorem dX1_stretch_9 : decode cX1_stretch 9 = .ok (.ldc 39, 2) := by decide +kernel
theorem dX1_stretch_11 : decode cX1_stretch 11 = .ok (.invokestatic 40, 3) := by decide +kernel
theorem dX1_stretch_14 : decode cX1_stretch 14 = .ok (.ifCond .eq 17, 3) := by decide +kernel
theorem dX1_stretch_17 : decode cX1_stretch 17 = .ok (.iload_n 2, 1) := by decide +kernel
theorem dX1_stretch_18 : decode cX1_stretch 18 = .ok (.iconst 1, 1) := by decide +kernel
theorem dX1_stretch_19 : decode cX1_stretch 19 = .ok (.ldc 39, 2) := by decide +kernel
theorem dX1_stretch_21 : decode cX1_stretch 21 = .ok (.invokestatic 40, 3) := by decide +kernel
theorem dX1_stretch_24 : decode cX1_stretch 24 = .ok (.ifCond .eq 7, 3) := by decide +kernel
theorem dX1_stretch_27 : decode cX1_stretch 27 = .ok (.iconst 1, 1) := by decide +kernel
theorem dX1_stretch_28 : decode cX1_stretch 28 = .ok (.goto 4, 3) := by decide +kernel
theorem dX1_stretch_31 : decode cX1_stretch 31 = .ok (.iconst 0, 1) := by decide +kernel
theorem dX1_stretch_32 : decode cX1_stretch 32 = .ok (.iconst 1, 1) := by decide +kernel
theorem dX1_stretch_33 : decode cX1_stretch 33 = .ok (.iconst 1, 1) := by decide +kernel
theorem dX1_stretch_34 : decode cX1_stretch 34 = .ok (.invokevirtual 47, 3) := by decide +kernel
theorem dX1_stretch_37 : decode cX1_stretch 37 = .ok (.ifCond .ne 5, 3) := by decide +kernel
theorem dX1_stretch_40 : decode cX1_stretch 40 = .ok (.lconst 0, 1) := by decide +kernel
theorem dX1_stretch_41 : decode cX1_stretch 41 = .ok (.lreturn, 1) := by decide +kernel
theorem dX1_stretch_42 : decode cX1_stretch 42 = .ok (.aload_n 0, 1) := by decide +kernel
theorem dX1_stretch_43 : decode cX1_stretch 43 = .ok (.iload_n 2, 1) := by decide +kernel
theorem dX1_stretch_44 : decode cX1_stretch 44 = .ok (.iload_n 1, 1) := by decide +kernel
theorem dX1_stretch_45 : decode cX1_stretch 45 = .ok (.isub, 1) := by decide +kernel
theorem dX1_stretch_46 : decode cX1_stretch 46 = .ok (.i2l, 1) := by decide +kernel
theorem dX1_stretch_47 : decode cX1_stretch 47 = .ok (.iload_n 1, 1) := by decide +kernel
theorem dX1_stretch_48 : decode cX1_stretch 48 = .ok (.i2l, 1) := by decide +kernel
theorem dX1_stretch_49 : decode cX1_stretch 49 = .ok (.iload_n 3, 1) := by decide +kernel
theorem dX1_stretch_50 : decode cX1_stretch 50 = .ok (.invokevirtual 57, 3) := by decide +kernel
theorem dX1_stretch_53 : decode cX1_stretch 53 = .ok (.lreturn, 1) := by decide +kernel
theorem dX1_impact_0 : decode cX1_impact 0 = .ok (.aload_n 0, 1) := by decide +kernel
theorem dX1_impact_1 : decode cX1_impact 1 = .ok (.iload_n 1, 1) := by decide +kernel
theorem dX1_impact_2 : decode cX1_impact 2 = .ok (.sipush (-200), 3) := by decide +kernel
theorem dX1_impact_5 : decode cX1_impact 5 = .ok (.sipush 200, 3) := by decide +kernel
theorem dX1_impact_8 : decode cX1_impact 8 = .ok (.invokestatic 40, 3) := by decide +kernel
theorem dX1_impact_11 : decode cX1_impact 11 = .ok (.ifCond .eq 18, 3) := by decide +kernel
theorem dX1_impact_14 : decode cX1_impact 14 = .ok (.iload_n 2, 1) := by decide +kernel
theorem dX1_impact_15 : decode cX1_impact 15 = .ok (.iconst 0, 1) := by decide +kernel
theorem dX1_impact_16 : decode cX1_impact 16 = .ok (.sipush 400, 3) := by decide +kernel
theorem dX1_impact_19 : decode cX1_impact 19 = .ok (.invokestatic 40, 3) := by decide +kernel
theorem dX1_impact_22 : decode cX1_impact 22 = .ok (.ifCond .eq 7, 3) := by decide +kernel
theorem dX1_impact_25 : decode cX1_impact 25 = .ok (.iconst 1, 1) := by decide +kernel
theorem dX1_impact_26 : decode cX1_impact 26 = .ok (.goto 4, 3) := by decide +kernel
theorem dX1_impact_29 : decode cX1_impact 29 = .ok (.iconst 0, 1) := by decide +kernel
theorem dX1_impact_30 : decode cX1_impact 30 = .ok (.aload_n 0, 1) := by decide +kernel
theorem dX1_impact_31 : decode cX1_impact 31 = .ok (.getfield 81, 3) := by decide +kernel
theorem dX1_impact_34 : decode cX1_impact 34 = .ok (.bipush 8, 2) := by decide +kernel
theorem dX1_impact_36 : decode cX1_impact 36 = .ok (.if_icmp .ge 7, 3) := by decide +kernel
theorem dX1_impact_39 : decode cX1_impact 39 = .ok (.iconst 1, 1) := by decide +kernel
theorem dX1_impact_40 : decode cX1_impact 40 = .ok (.goto 4, 3) := by decide +kernel
theorem dX1_impact_43 : decode cX1_impact 43 = .ok (.iconst 0, 1) := by decide +kernel
theorem dX1_impact_44 : decode cX1_impact 44 = .ok (.iconst 1, 1) := by decide +kernel
theorem dX1_impact_45 : decode cX1_impact 45 = .ok (.iconst 1, 1) := by decide +kernel
theorem dX1_impact_46 : decode cX1_impact 46 = .ok (.invokevirtual 47, 3) := by decide +kernel
theorem dX1_impact_49 : decode cX1_impact 49 = .ok (.ifCond .ne 5, 3) := by decide +kernel
theorem dX1_impact_52 : decode cX1_impact 52 = .ok (.iconst 0, 1) := by decide +kernel
theorem dX1_impact_53 : decode cX1_impact 53 = .ok (.ireturn, 1) := by decide +kernel
theorem dX1_impact_54 : decode cX1_impact 54 = .ok (.aload_n 0, 1) := by decide +kernel
theorem dX1_impact_55 : decode cX1_impact 55 = .ok (.getfield 16, 3) := by decide +kernel
theorem dX1_impact_58 : decode cX1_impact 58 = .ok (.aload_n 0, 1) := by decide +kernel
theorem dX1_impact_59 : decode cX1_impact 59 = .ok (.getfield 81, 3) := by decide +kernel
theorem dX1_impact_62 : decode cX1_impact 62 = .ok (.iload_n 1, 1) := by decide +kernel
theorem dX1_impact_63 : decode cX1_impact 63 = .ok (.iastore, 1) := by decide +kernel
theorem dX1_impact_64 : decode cX1_impact 64 = .ok (.aload_n 0, 1) := by decide +kernel
theorem dX1_impact_65 : decode cX1_impact 65 = .ok (.getfield 19, 3) := by decide +kernel
theorem dX1_impact_68 : decode cX1_impact 68 = .ok (.aload_n 0, 1) := by decide +kernel
theorem dX1_impact_69 : decode cX1_impact 69 = .ok (.getfield 81, 3) := by decide +kernel
theorem dX1_impact_72 : decode cX1_impact 72 = .ok (.iload_n 2, 1) := by decide +kernel
theorem dX1_impact_73 : decode cX1_impact 73 = .ok (.iastore, 1) := by decide +kernel
theorem dX1_impact_74 : decode cX1_impact 74 = .ok (.aload_n 0, 1) := by decide +kernel
theorem dX1_impact_75 : decode cX1_impact 75 = .ok (.dup, 1) := by decide +kernel
theorem dX1_impact_76 : decode cX1_impact 76 = .ok (.getfield 81, 3) := by decide +kernel
theorem dX1_impact_79 : decode cX1_impact 79 = .ok (.iconst 1, 1) := by decide +kernel
theorem dX1_impact_80 : decode cX1_impact 80 = .ok (.iadd, 1) := by decide +kernel
theorem dX1_impact_81 : decode cX1_impact 81 = .ok (.putfield 81, 3) := by decide +kernel
theorem dX1_impact_84 : decode cX1_impact 84 = .ok (.aload_n 0, 1) := by decide +kernel
theorem dX1_impact_85 : decode cX1_impact 85 = .ok (.getfield 81, 3) := by decide +kernel
theorem dX1_impact_88 : decode cX1_impact 88 = .ok (.ireturn, 1) := by decide +kernel
theorem dX1_fitted_0 : decode cX1_fitted 0 = .ok (.aload_n 0, 1) := by decide +kernel
theorem dX1_fitted_1 : decode cX1_fitted 1 = .ok (.getfield 81, 3) := by decide +kernel
theorem dX1_fitted_4 : decode cX1_fitted 4 = .ok (.i2l, 1) := by decide +kernel
theorem dX1_fitted_5 : decode cX1_fitted 5 = .ok (.lstore_n 3, 1) := by decide +kernel
theorem dX1_fitted_6 : decode cX1_fitted 6 = .ok (.lconst 0, 1) := by decide +kernel
theorem dX1_fitted_7 : decode cX1_fitted 7 = .ok (.lstore 5, 2) := by decide +kernel
theorem dX1_fitted_9 : decode cX1_fitted 9 = .ok (.lconst 0, 1) := by decide +kernel
theorem dX1_fitted_10 : decode cX1_fitted 10 = .ok (.lstore 7, 2) := by decide +kernel
theorem dX1_fitted_12 : decode cX1_fitted 12 = .ok (.lconst 0, 1) := by decide +kernel
theorem dX1_fitted_13 : decode cX1_fitted 13 = .ok (.lstore 9, 2) := by decide +kernel
theorem dX1_fitted_15 : decode cX1_fitted 15 = .ok (.lconst 0, 1) := by decide +kernel
theorem dX1_fitted_16 : decode cX1_fitted 16 = .ok (.lstore 11, 2) := by decide +kernel
theorem dX1_fitted_18 : decode cX1_fitted 18 = .ok (.iconst 0, 1) := by decide +kernel
theorem dX1_fitted_19 : decode cX1_fitted 19 = .ok (.istore 13, 2) := by decide +kernel
theorem dX1_fitted_21 : decode cX1_fitted 21 = .ok (.iload 13, 2) := by decide +kernel
theorem dX1_fitted_23 : decode cX1_fitted 23 = .ok (.aload_n 0, 1) := by decide +kernel
theorem dX1_fitted_24 : decode cX1_fitted 24 = .ok (.getfield 81, 3) := by decide +kernel
theorem dX1_fitted_27 : decode cX1_fitted 27 = .ok (.if_icmp .ge 77, 3) := by decide +kernel
theorem dX1_fitted_30 : decode cX1_fitted 30 = .ok (.lload 5, 2) := by decide +kernel
theorem dX1_fitted_32 : decode cX1_fitted 32 = .ok (.aload_n 0, 1) := by decide +kernel
theorem dX1_fitted_33 : decode cX1_fitted 33 = .ok (.getfield 16, 3) := by decide +kernel
theorem dX1_fitted_36 : decode cX1_fitted 36 = .ok (.iload 13, 2) := by decide +kernel
theorem dX1_fitted_38 : decode cX1_fitted 38 = .ok (.iaload, 1) := by decide +kernel
theorem dX1_fitted_39 : decode cX1_fitted 39 = .ok (.i2l, 1) := by decide +kernel
theorem dX1_fitted_40 : decode cX1_fitted 40 = .ok (.ladd, 1) := by decide +kernel
theorem dX1_fitted_41 : decode cX1_fitted 41 = .ok (.lstore 5, 2) := by decide +kernel
theorem dX1_fitted_43 : decode cX1_fitted 43 = .ok (.lload 7, 2) := by decide +kernel
theorem dX1_fitted_45 : decode cX1_fitted 45 = .ok (.aload_n 0, 1) := by decide +kernel
theorem dX1_fitted_46 : decode cX1_fitted 46 = .ok (.getfield 19, 3) := by decide +kernel
theorem dX1_fitted_49 : decode cX1_fitted 49 = .ok (.iload 13, 2) := by decide +kernel
theorem dX1_fitted_51 : decode cX1_fitted 51 = .ok (.iaload, 1) := by decide +kernel
theorem dX1_fitted_52 : decode cX1_fitted 52 = .ok (.i2l, 1) := by decide +kernel
theorem dX1_fitted_53 : decode cX1_fitted 53 = .ok (.ladd, 1) := by decide +kernel
theorem dX1_fitted_54 : decode cX1_fitted 54 = .ok (.lstore 7, 2) := by decide +kernel
theorem dX1_fitted_56 : decode cX1_fitted 56 = .ok (.lload 9, 2) := by decide +kernel
theorem dX1_fitted_58 : decode cX1_fitted 58 = .ok (.aload_n 0, 1) := by decide +kernel
theorem dX1_fitted_59 : decode cX1_fitted 59 = .ok (.getfield 16, 3) := by decide +kernel
theorem dX1_fitted_62 : decode cX1_fitted 62 = .ok (.iload 13, 2) := by decide +kernel
theorem dX1_fitted_64 : decode cX1_fitted 64 = .ok (.iaload, 1) := by decide +kernel
theorem dX1_fitted_65 : decode cX1_fitted 65 = .ok (.aload_n 0, 1) := by decide +kernel
theorem dX1_fitted_66 : decode cX1_fitted 66 = .ok (.getfield 16, 3) := by decide +kernel
theorem dX1_fitted_69 : decode cX1_fitted 69 = .ok (.iload 13, 2) := by decide +kernel
theorem dX1_fitted_71 : decode cX1_fitted 71 = .ok (.iaload, 1) := by decide +kernel
theorem dX1_fitted_72 : decode cX1_fitted 72 = .ok (.imul, 1) := by decide +kernel
theorem dX1_fitted_73 : decode cX1_fitted 73 = .ok (.i2l, 1) := by decide +kernel
theorem dX1_fitted_74 : decode cX1_fitted 74 = .ok (.ladd, 1) := by decide +kernel
theorem dX1_fitted_75 : decode cX1_fitted 75 = .ok (.lstore 9, 2) := by decide +kernel
theorem dX1_fitted_77 : decode cX1_fitted 77 = .ok (.lload 11, 2) := by decide +kernel
theorem dX1_fitted_79 : decode cX1_fitted 79 = .ok (.aload_n 0, 1) := by decide +kernel
theorem dX1_fitted_80 : decode cX1_fitted 80 = .ok (.getfield 16, 3) := by decide +kernel
theorem dX1_fitted_83 : decode cX1_fitted 83 = .ok (.iload 13, 2) := by decide +kernel
theorem dX1_fitted_85 : decode cX1_fitted 85 = .ok (.iaload, 1) := by decide +kernel
theorem dX1_fitted_86 : decode cX1_fitted 86 = .ok (.aload_n 0, 1) := by decide +kernel
theorem dX1_fitted_87 : decode cX1_fitted 87 = .ok (.getfield 19, 3) := by decide +kernel
theorem dX1_fitted_90 : decode cX1_fitted 90 = .ok (.iload 13, 2) := by decide +kernel
theorem dX1_fitted_92 : decode cX1_fitted 92 = .ok (.iaload, 1) := by decide +kernel
theorem dX1_fitted_93 : decode cX1_fitted 93 = .ok (.imul, 1) := by decide +kernel
theorem dX1_fitted_94 : decode cX1_fitted 94 = .ok (.i2l, 1) := by decide +kernel
theorem dX1_fitted_95 : decode cX1_fitted 95 = .ok (.ladd, 1) := by decide +kernel
theorem dX1_fitted_96 : decode cX1_fitted 96 = .ok (.lstore 11, 2) := by decide +kernel
theorem dX1_fitted_98 : decode cX1_fitted 98 = .ok (.iinc 13 1, 3) := by decide +kernel
theorem dX1_fitted_101 : decode cX1_fitted 101 = .ok (.goto (-80), 3) := by decide +kernel
theorem dX1_fitted_104 : decode cX1_fitted 104 = .ok (.lload_n 3, 1) := by decide +kernel
theorem dX1_fitted_105 : decode cX1_fitted 105 = .ok (.lload 9, 2) := by decide +kernel
theorem dX1_fitted_107 : decode cX1_fitted 107 = .ok (.lmul, 1) := by decide +kernel
theorem dX1_fitted_108 : decode cX1_fitted 108 = .ok (.lload 5, 2) := by decide +kernel
theorem dX1_fitted_110 : decode cX1_fitted 110 = .ok (.lload 5, 2) := by decide +kernel
theorem dX1_fitted_112 : decode cX1_fitted 112 = .ok (.lmul, 1) := by decide +kernel
theorem dX1_fitted_113 : decode cX1_fitted 113 = .ok (.lsub, 1) := by decide +kernel
theorem dX1_fitted_114 : decode cX1_fitted 114 = .ok (.lstore 13, 2) := by decide +kernel
theorem dX1_fitted_116 : decode cX1_fitted 116 = .ok (.aload_n 0, 1) := by decide +kernel
theorem dX1_fitted_117 : decode cX1_fitted 117 = .ok (.iload_n 2, 1) := by decide +kernel
theorem dX1_fitted_118 : decode cX1_fitted 118 = .ok (.iconst 0, 1) := by decide +kernel
theorem dX1_fitted_119 : decode cX1_fitted 119 = .ok (.iconst 1, 1) := by decide +kernel
theorem dX1_fitted_120 : decode cX1_fitted 120 = .ok (.invokestatic 40, 3) := by decide +kernel
theorem dX1_fitted_123 : decode cX1_fitted 123 = .ok (.lload_n 3, 1) := by decide +kernel
theorem dX1_fitted_124 : decode cX1_fitted 124 = .ok (.ldc2_w 84, 3) := by decide +kernel
theorem dX1_fitted_127 : decode cX1_fitted 127 = .ok (.lcmp, 1) := by decide +kernel
theorem dX1_fitted_128 : decode cX1_fitted 128 = .ok (.ifCond .lt 14, 3) := by decide +kernel
theorem dX1_fitted_131 : decode cX1_fitted 131 = .ok (.lload 13, 2) := by decide +kernel
theorem dX1_fitted_133 : decode cX1_fitted 133 = .ok (.lconst 0, 1) := by decide +kernel
theorem dX1_fitted_134 : decode cX1_fitted 134 = .ok (.lcmp, 1) := by decide +kernel
theorem dX1_fitted_135 : decode cX1_fitted 135 = .ok (.ifCond .le 7, 3) := by decide +kernel
theorem dX1_fitted_138 : decode cX1_fitted 138 = .ok (.iconst 1, 1) := by decide +kernel
theorem dX1_fitted_139 : decode cX1_fitted 139 = .ok (.goto 4, 3) := by decide +kernel
theorem dX1_fitted_142 : decode cX1_fitted 142 = .ok (.iconst 0, 1) := by decide +kernel
theorem dX1_fitted_143 : decode cX1_fitted 143 = .ok (.iload_n 1, 1) := by decide +kernel
theorem dX1_fitted_144 : decode cX1_fitted 144 = .ok (.sipush (-200), 3) := by decide +kernel
theorem dX1_fitted_147 : decode cX1_fitted 147 = .ok (.sipush 200, 3) := by decide +kernel
theorem dX1_fitted_150 : decode cX1_fitted 150 = .ok (.invokestatic 40, 3) := by decide +kernel
theorem dX1_fitted_153 : decode cX1_fitted 153 = .ok (.iconst 1, 1) := by decide +kernel
theorem dX1_fitted_154 : decode cX1_fitted 154 = .ok (.invokevirtual 47, 3) := by decide +kernel
theorem dX1_fitted_157 : decode cX1_fitted 157 = .ok (.ifCond .ne 5, 3) := by decide +kernel
theorem dX1_fitted_160 : decode cX1_fitted 160 = .ok (.lconst 0, 1) := by decide +kernel
theorem dX1_fitted_161 : decode cX1_fitted 161 = .ok (.lreturn, 1) := by decide +kernel
theorem dX1_fitted_162 : decode cX1_fitted 162 = .ok (.lload_n 3, 1) := by decide +kernel
theorem dX1_fitted_163 : decode cX1_fitted 163 = .ok (.lload 11, 2) := by decide +kernel
theorem dX1_fitted_165 : decode cX1_fitted 165 = .ok (.lmul, 1) := by decide +kernel
theorem dX1_fitted_166 : decode cX1_fitted 166 = .ok (.lload 5, 2) := by decide +kernel
theorem dX1_fitted_168 : decode cX1_fitted 168 = .ok (.lload 7, 2) := by decide +kernel
theorem dX1_fitted_170 : decode cX1_fitted 170 = .ok (.lmul, 1) := by decide +kernel
theorem dX1_fitted_171 : decode cX1_fitted 171 = .ok (.lsub, 1) := by decide +kernel
theorem dX1_fitted_172 : decode cX1_fitted 172 = .ok (.lstore 15, 2) := by decide +kernel
theorem dX1_fitted_174 : decode cX1_fitted 174 = .ok (.aload_n 0, 1) := by decide +kernel
theorem dX1_fitted_175 : decode cX1_fitted 175 = .ok (.lload 7, 2) := by decide +kernel
theorem dX1_fitted_177 : decode cX1_fitted 177 = .ok (.lload 13, 2) := by decide +kernel
theorem dX1_fitted_179 : decode cX1_fitted 179 = .ok (.lmul, 1) := by decide +kernel
theorem dX1_fitted_180 : decode cX1_fitted 180 = .ok (.lload 15, 2) := by decide +kernel
theorem dX1_fitted_182 : decode cX1_fitted 182 = .ok (.lload 5, 2) := by decide +kernel
theorem dX1_fitted_184 : decode cX1_fitted 184 = .ok (.lmul, 1) := by decide +kernel
theorem dX1_fitted_185 : decode cX1_fitted 185 = .ok (.lsub, 1) := by decide +kernel
theorem dX1_fitted_186 : decode cX1_fitted 186 = .ok (.lload 15, 2) := by decide +kernel
theorem dX1_fitted_188 : decode cX1_fitted 188 = .ok (.iload_n 1, 1) := by decide +kernel
theorem dX1_fitted_189 : decode cX1_fitted 189 = .ok (.i2l, 1) := by decide +kernel
theorem dX1_fitted_190 : decode cX1_fitted 190 = .ok (.lmul, 1) := by decide +kernel
theorem dX1_fitted_191 : decode cX1_fitted 191 = .ok (.lload_n 3, 1) := by decide +kernel
theorem dX1_fitted_192 : decode cX1_fitted 192 = .ok (.lmul, 1) := by decide +kernel
theorem dX1_fitted_193 : decode cX1_fitted 193 = .ok (.ladd, 1) := by decide +kernel
theorem dX1_fitted_194 : decode cX1_fitted 194 = .ok (.lload_n 3, 1) := by decide +kernel
theorem dX1_fitted_195 : decode cX1_fitted 195 = .ok (.lload 13, 2) := by decide +kernel
theorem dX1_fitted_197 : decode cX1_fitted 197 = .ok (.lmul, 1) := by decide +kernel
theorem dX1_fitted_198 : decode cX1_fitted 198 = .ok (.iload_n 2, 1) := by decide +kernel
theorem dX1_fitted_199 : decode cX1_fitted 199 = .ok (.invokevirtual 57, 3) := by decide +kernel
theorem dX1_fitted_202 : decode cX1_fitted 202 = .ok (.lreturn, 1) := by decide +kernel
theorem dX1_table_0 : decode cX1_table 0 = .ok (.iload_n 1, 1) := by decide +kernel
theorem dX1_table_1 : decode cX1_table 1 = .ok (.iconst 0, 1) := by decide +kernel
theorem dX1_table_2 : decode cX1_table 2 = .ok (.sipush 2000, 3) := by decide +kernel
theorem dX1_table_5 : decode cX1_table 5 = .ok (.invokestatic 40, 3) := by decide +kernel
theorem dX1_table_8 : decode cX1_table 8 = .ok (.ifCond .eq 40, 3) := by decide +kernel
theorem dX1_table_11 : decode cX1_table 11 = .ok (.iload_n 2, 1) := by decide +kernel
theorem dX1_table_12 : decode cX1_table 12 = .ok (.iconst 0, 1) := by decide +kernel
theorem dX1_table_13 : decode cX1_table 13 = .ok (.sipush 2000, 3) := by decide +kernel
theorem dX1_table_16 : decode cX1_table 16 = .ok (.invokestatic 40, 3) := by decide +kernel
theorem dX1_table_19 : decode cX1_table 19 = .ok (.ifCond .eq 29, 3) := by decide +kernel
theorem dX1_table_22 : decode cX1_table 22 = .ok (.aload_n 0, 1) := by decide +kernel
theorem dX1_table_23 : decode cX1_table 23 = .ok (.getfield 86, 3) := by decide +kernel
theorem dX1_table_26 : decode cX1_table 26 = .ok (.ifCond .eq 18, 3) := by decide +kernel
theorem dX1_table_29 : decode cX1_table 29 = .ok (.iload_n 1, 1) := by decide +kernel
theorem dX1_table_30 : decode cX1_table 30 = .ok (.aload_n 0, 1) := by decide +kernel
theorem dX1_table_31 : decode cX1_table 31 = .ok (.getfield 22, 3) := by decide +kernel
theorem dX1_table_34 : decode cX1_table 34 = .ok (.aload_n 0, 1) := by decide +kernel
theorem dX1_table_35 : decode cX1_table 35 = .ok (.getfield 86, 3) := by decide +kernel
theorem dX1_table_38 : decode cX1_table 38 = .ok (.iconst 1, 1) := by decide +kernel
theorem dX1_table_39 : decode cX1_table 39 = .ok (.isub, 1) := by decide +kernel
theorem dX1_table_40 : decode cX1_table 40 = .ok (.iaload, 1) := by decide +kernel
theorem dX1_table_41 : decode cX1_table 41 = .ok (.if_icmp .le 7, 3) := by decide +kernel
theorem dX1_table_44 : decode cX1_table 44 = .ok (.iconst 1, 1) := by decide +kernel
theorem dX1_table_45 : decode cX1_table 45 = .ok (.goto 4, 3) := by decide +kernel
theorem dX1_table_48 : decode cX1_table 48 = .ok (.iconst 0, 1) := by decide +kernel
theorem dX1_table_49 : decode cX1_table 49 = .ok (.istore_n 3, 1) := by decide +kernel
theorem dX1_table_50 : decode cX1_table 50 = .ok (.aload_n 0, 1) := by decide +kernel
theorem dX1_table_51 : decode cX1_table 51 = .ok (.iload_n 3, 1) := by decide +kernel
theorem dX1_table_52 : decode cX1_table 52 = .ok (.aload_n 0, 1) := by decide +kernel
theorem dX1_table_53 : decode cX1_table 53 = .ok (.getfield 86, 3) := by decide +kernel
theorem dX1_table_56 : decode cX1_table 56 = .ok (.bipush 8, 2) := by decide +kernel
theorem dX1_table_58 : decode cX1_table 58 = .ok (.if_icmp .ge 7, 3) := by decide +kernel
theorem dX1_table_61 : decode cX1_table 61 = .ok (.iconst 1, 1) := by decide +kernel
theorem dX1_table_62 : decode cX1_table 62 = .ok (.goto 4, 3) := by decide +kernel
theorem dX1_table_65 : decode cX1_table 65 = .ok (.iconst 0, 1) := by decide +kernel
theorem dX1_table_66 : decode cX1_table 66 = .ok (.iconst 1, 1) := by decide +kernel
theorem dX1_table_67 : decode cX1_table 67 = .ok (.iconst 1, 1) := by decide +kernel
theorem dX1_table_68 : decode cX1_table 68 = .ok (.invokevirtual 47, 3) := by decide +kernel
theorem dX1_table_71 : decode cX1_table 71 = .ok (.ifCond .ne 5, 3) := by decide +kernel
theorem dX1_table_74 : decode cX1_table 74 = .ok (.iconst 0, 1) := by decide +kernel
