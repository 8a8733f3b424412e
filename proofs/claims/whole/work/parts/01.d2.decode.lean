theorem dX0_fitted_13 : decode cX0_fitted 13 = .ok (.lmul, 1) := by decide +kernel
theorem dX0_fitted_14 : decode cX0_fitted 14 = .ok (.aload_n 0, 1) := by decide +kernel
theorem dX0_fitted_15 : decode cX0_fitted 15 = .ok (.getfield 117, 3) := by decide +kernel
theorem dX0_fitted_18 : decode cX0_fitted 18 = .ok (.aload_n 0, 1) := by decide +kernel
theorem dX0_fitted_19 : decode cX0_fitted 19 = .ok (.getfield 117, 3) := by decide +kernel
theorem dX0_fitted_22 : decode cX0_fitted 22 = .ok (.lmul, 1) := by decide +kernel
theorem dX0_fitted_23 : decode cX0_fitted 23 = .ok (.lsub, 1) := by decide +kernel
theorem dX0_fitted_24 : decode cX0_fitted 24 = .ok (.lstore_n 3, 1) := by decide +kernel
theorem dX0_fitted_25 : decode cX0_fitted 25 = .ok (.lload_n 3, 1) := by decide +kernel
theorem dX0_fitted_26 : decode cX0_fitted 26 = .ok (.lconst 0, 1) := by decide +kernel
theorem dX0_fitted_27 : decode cX0_fitted 27 = .ok (.lcmp, 1) := by decide +kernel
theorem dX0_fitted_28 : decode cX0_fitted 28 = .ok (.ifCond .gt 13, 3) := by decide +kernel
theorem dX0_fitted_31 : decode cX0_fitted 31 = .ok (.new 79, 3) := by decide +kernel
theorem dX0_fitted_34 : decode cX0_fitted 34 = .ok (.dup, 1) := by decide +kernel
theorem dX0_fitted_35 : decode cX0_fitted 35 = .ok (.ldc 129, 2) := by decide +kernel
theorem dX0_fitted_37 : decode cX0_fitted 37 = .ok (.invokespecial 83, 3) := by decide +kernel
theorem dX0_fitted_40 : decode cX0_fitted 40 = .ok (.athrow, 1) := by decide +kernel
theorem dX0_fitted_41 : decode cX0_fitted 41 = .ok (.iload_n 1, 1) := by decide +kernel
theorem dX0_fitted_42 : decode cX0_fitted 42 = .ok (.sipush (-200), 3) := by decide +kernel
theorem dX0_fitted_45 : decode cX0_fitted 45 = .ok (.sipush 200, 3) := by decide +kernel
theorem dX0_fitted_48 : decode cX0_fitted 48 = .ok (.invokestatic 23, 3) := by decide +kernel
theorem dX0_fitted_51 : decode cX0_fitted 51 = .ok (.ifCond .ne 13, 3) := by decide +kernel
theorem dX0_fitted_54 : decode cX0_fitted 54 = .ok (.new 27, 3) := by decide +kernel
theorem dX0_fitted_57 : decode cX0_fitted 57 = .ok (.dup, 1) := by decide +kernel
theorem dX0_fitted_58 : decode cX0_fitted 58 = .ok (.ldc 131, 2) := by decide +kernel
theorem dX0_fitted_60 : decode cX0_fitted 60 = .ok (.invokespecial 31, 3) := by decide +kernel
theorem dX0_fitted_63 : decode cX0_fitted 63 = .ok (.athrow, 1) := by decide +kernel
theorem dX0_fitted_64 : decode cX0_fitted 64 = .ok (.aload_n 0, 1) := by decide +kernel
theorem dX0_fitted_65 : decode cX0_fitted 65 = .ok (.getfield 112, 3) := by decide +kernel
theorem dX0_fitted_68 : decode cX0_fitted 68 = .ok (.i2l, 1) := by decide +kernel
theorem dX0_fitted_69 : decode cX0_fitted 69 = .ok (.aload_n 0, 1) := by decide +kernel
theorem dX0_fitted_70 : decode cX0_fitted 70 = .ok (.getfield 123, 3) := by decide +kernel
theorem dX0_fitted_73 : decode cX0_fitted 73 = .ok (.lmul, 1) := by decide +kernel
theorem dX0_fitted_74 : decode cX0_fitted 74 = .ok (.aload_n 0, 1) := by decide +kernel
theorem dX0_fitted_75 : decode cX0_fitted 75 = .ok (.getfield 117, 3) := by decide +kernel
theorem dX0_fitted_78 : decode cX0_fitted 78 = .ok (.aload_n 0, 1) := by decide +kernel
theorem dX0_fitted_79 : decode cX0_fitted 79 = .ok (.getfield 120, 3) := by decide +kernel
theorem dX0_fitted_82 : decode cX0_fitted 82 = .ok (.lmul, 1) := by decide +kernel
theorem dX0_fitted_83 : decode cX0_fitted 83 = .ok (.lsub, 1) := by decide +kernel
theorem dX0_fitted_84 : decode cX0_fitted 84 = .ok (.lstore 5, 2) := by decide +kernel
theorem dX0_fitted_86 : decode cX0_fitted 86 = .ok (.aload_n 0, 1) := by decide +kernel
theorem dX0_fitted_87 : decode cX0_fitted 87 = .ok (.getfield 120, 3) := by decide +kernel
theorem dX0_fitted_90 : decode cX0_fitted 90 = .ok (.lload_n 3, 1) := by decide +kernel
theorem dX0_fitted_91 : decode cX0_fitted 91 = .ok (.lmul, 1) := by decide +kernel
theorem dX0_fitted_92 : decode cX0_fitted 92 = .ok (.lload 5, 2) := by decide +kernel
theorem dX0_fitted_94 : decode cX0_fitted 94 = .ok (.aload_n 0, 1) := by decide +kernel
theorem dX0_fitted_95 : decode cX0_fitted 95 = .ok (.getfield 112, 3) := by decide +kernel
theorem dX0_fitted_98 : decode cX0_fitted 98 = .ok (.iload_n 1, 1) := by decide +kernel
theorem dX0_fitted_99 : decode cX0_fitted 99 = .ok (.imul, 1) := by decide +kernel
theorem dX0_fitted_100 : decode cX0_fitted 100 = .ok (.i2l, 1) := by decide +kernel
theorem dX0_fitted_101 : decode cX0_fitted 101 = .ok (.aload_n 0, 1) := by decide +kernel
theorem dX0_fitted_102 : decode cX0_fitted 102 = .ok (.getfield 117, 3) := by decide +kernel
theorem dX0_fitted_105 : decode cX0_fitted 105 = .ok (.lsub, 1) := by decide +kernel
theorem dX0_fitted_106 : decode cX0_fitted 106 = .ok (.lmul, 1) := by decide +kernel
theorem dX0_fitted_107 : decode cX0_fitted 107 = .ok (.ladd, 1) := by decide +kernel
theorem dX0_fitted_108 : decode cX0_fitted 108 = .ok (.lstore 7, 2) := by decide +kernel
theorem dX0_fitted_110 : decode cX0_fitted 110 = .ok (.lload 7, 2) := by decide +kernel
theorem dX0_fitted_112 : decode cX0_fitted 112 = .ok (.aload_n 0, 1) := by decide +kernel
theorem dX0_fitted_113 : decode cX0_fitted 113 = .ok (.getfield 112, 3) := by decide +kernel
theorem dX0_fitted_116 : decode cX0_fitted 116 = .ok (.i2l, 1) := by decide +kernel
theorem dX0_fitted_117 : decode cX0_fitted 117 = .ok (.lload_n 3, 1) := by decide +kernel
theorem dX0_fitted_118 : decode cX0_fitted 118 = .ok (.lmul, 1) := by decide +kernel
theorem dX0_fitted_119 : decode cX0_fitted 119 = .ok (.iload_n 2, 1) := by decide +kernel
theorem dX0_fitted_120 : decode cX0_fitted 120 = .ok (.invokestatic 75, 3) := by decide +kernel
theorem dX0_fitted_123 : decode cX0_fitted 123 = .ok (.lreturn, 1) := by decide +kernel
theorem dL_table_0 : decode cL_table 0 = .ok (.aload_n 3, 1) := by decide +kernel
theorem dL_table_1 : decode cL_table 1 = .ok (.iconst 0, 1) := by decide +kernel
theorem dL_table_2 : decode cL_table 2 = .ok (.aload_n 0, 1) := by decide +kernel
theorem dL_table_3 : decode cL_table 3 = .ok (.iload_n 1, 1) := by decide +kernel
theorem dL_table_4 : decode cL_table 4 = .ok (.iload_n 2, 1) := by decide +kernel
theorem dL_table_5 : decode cL_table 5 = .ok (.invokevirtual 46, 3) := by decide +kernel
theorem dL_table_8 : decode cL_table 8 = .ok (.i2l, 1) := by decide +kernel
theorem dL_table_9 : decode cL_table 9 = .ok (.lastore, 1) := by decide +kernel
theorem dL_table_10 : decode cL_table 10 = .ok (.goto 11, 3) := by decide +kernel
theorem dL_table_13 : decode cL_table 13 = .ok (.astore 4, 2) := by decide +kernel
theorem dL_table_15 : decode cL_table 15 = .ok (.iconst 1, 1) := by decide +kernel
theorem dL_table_16 : decode cL_table 16 = .ok (.ireturn, 1) := by decide +kernel
theorem dL_table_17 : decode cL_table 17 = .ok (.astore 4, 2) := by decide +kernel
theorem dL_table_19 : decode cL_table 19 = .ok (.iconst 2, 1) := by decide +kernel
theorem dL_table_20 : decode cL_table 20 = .ok (.ireturn, 1) := by decide +kernel
theorem dL_table_21 : decode cL_table 21 = .ok (.iconst 0, 1) := by decide +kernel
theorem dL_table_22 : decode cL_table 22 = .ok (.ireturn, 1) := by decide +kernel
theorem dX0_table_0 : decode cX0_table 0 = .ok (.iload_n 1, 1) := by decide +kernel
theorem dX0_table_1 : decode cX0_table 1 = .ok (.iconst 0, 1) := by decide +kernel
theorem dX0_table_2 : decode cX0_table 2 = .ok (.sipush 2000, 3) := by decide +kernel
theorem dX0_table_5 : decode cX0_table 5 = .ok (.invokestatic 23, 3) := by decide +kernel
theorem dX0_table_8 : decode cX0_table 8 = .ok (.ifCond .eq 14, 3) := by decide +kernel
theorem dX0_table_11 : decode cX0_table 11 = .ok (.iload_n 2, 1) := by decide +kernel
theorem dX0_table_12 : decode cX0_table 12 = .ok (.iconst 0, 1) := by decide +kernel
theorem dX0_table_13 : decode cX0_table 13 = .ok (.sipush 2000, 3) := by decide +kernel
theorem dX0_table_16 : decode cX0_table 16 = .ok (.invokestatic 23, 3) := by decide +kernel
theorem dX0_table_19 : decode cX0_table 19 = .ok (.ifCond .ne 13, 3) := by decide +kernel
theorem dX0_table_22 : decode cX0_table 22 = .ok (.new 27, 3) := by decide +kernel
theorem dX0_table_25 : decode cX0_table 25 = .ok (.dup, 1) := by decide +kernel
theorem dX0_table_26 : decode cX0_table 26 = .ok (.ldc 133, 2) := by decide +kernel
theorem dX0_table_28 : decode cX0_table 28 = .ok (.invokespecial 31, 3) := by decide +kernel
theorem dX0_table_31 : decode cX0_table 31 = .ok (.athrow, 1) := by decide +kernel
theorem dX0_table_32 : decode cX0_table 32 = .ok (.aload_n 0, 1) := by decide +kernel
theorem dX0_table_33 : decode cX0_table 33 = .ok (.getfield 135, 3) := by decide +kernel
theorem dX0_table_36 : decode cX0_table 36 = .ok (.ifCond .le 28, 3) := by decide +kernel
theorem dX0_table_39 : decode cX0_table 39 = .ok (.iload_n 1, 1) := by decide +kernel
theorem dX0_table_40 : decode cX0_table 40 = .ok (.aload_n 0, 1) := by decide +kernel
theorem dX0_table_41 : decode cX0_table 41 = .ok (.getfield 16, 3) := by decide +kernel
theorem dX0_table_44 : decode cX0_table 44 = .ok (.aload_n 0, 1) := by decide +kernel
theorem dX0_table_45 : decode cX0_table 45 = .ok (.getfield 135, 3) := by decide +kernel
theorem dX0_table_48 : decode cX0_table 48 = .ok (.iconst 1, 1) := by decide +kernel
theorem dX0_table_49 : decode cX0_table 49 = .ok (.isub, 1) := by decide +kernel
theorem dX0_table_50 : decode cX0_table 50 = .ok (.iaload, 1) := by decide +kernel
theorem dX0_table_51 : decode cX0_table 51 = .ok (.if_icmp .gt 13, 3) := by decide +kernel
theorem dX0_table_54 : decode cX0_table 54 = .ok (.new 27, 3) := by decide +kernel
theorem dX0_table_57 : decode cX0_table 57 = .ok (.dup, 1) := by decide +kernel
theorem dX0_table_58 : decode cX0_table 58 = .ok (.ldc 138, 2) := by decide +kernel
theorem dX0_table_60 : decode cX0_table 60 = .ok (.invokespecial 31, 3) := by decide +kernel
theorem dX0_table_63 : decode cX0_table 63 = .ok (.athrow, 1) := by decide +kernel
theorem dX0_table_64 : decode cX0_table 64 = .ok (.aload_n 0, 1) := by decide +kernel
theorem dX0_table_65 : decode cX0_table 65 = .ok (.getfield 135, 3) := by decide +kernel
theorem dX0_table_68 : decode cX0_table 68 = .ok (.bipush 8, 2) := by decide +kernel
theorem dX0_table_70 : decode cX0_table 70 = .ok (.if_icmp .lt 13, 3) := by decide +kernel
theorem dX0_table_73 : decode cX0_table 73 = .ok (.new 40, 3) := by decide +kernel
theorem dX0_table_76 : decode cX0_table 76 = .ok (.dup, 1) := by decide +kernel
theorem dX0_table_77 : decode cX0_table 77 = .ok (.ldc 140, 2) := by decide +kernel
theorem dX0_table_79 : decode cX0_table 79 = .ok (.invokespecial 44, 3) := by decide +kernel
theorem dX0_table_82 : decode cX0_table 82 = .ok (.athrow, 1) := by decide +kernel
theorem dX0_table_83 : decode cX0_table 83 = .ok (.aload_n 0, 1) := by decide +kernel
theorem dX0_table_84 : decode cX0_table 84 = .ok (.getfield 16, 3) := by decide +kernel
theorem dX0_table_87 : decode cX0_table 87 = .ok (.aload_n 0, 1) := by decide +kernel
theorem dX0_table_88 : decode cX0_table 88 = .ok (.getfield 135, 3) := by decide +kernel
theorem dX0_table_91 : decode cX0_table 91 = .ok (.iload_n 1, 1) := by decide +kernel
theorem dX0_table_92 : decode cX0_table 92 = .ok (.iastore, 1) := by decide +kernel
theorem dX0_table_93 : decode cX0_table 93 = .ok (.aload_n 0, 1) := by decide +kernel
theorem dX0_table_94 : decode cX0_table 94 = .ok (.getfield 19, 3) := by decide +kernel
theorem dX0_table_97 : decode cX0_table 97 = .ok (.aload_n 0, 1) := by decide +kernel
theorem dX0_table_98 : decode cX0_table 98 = .ok (.getfield 135, 3) := by decide +kernel
theorem dX0_table_101 : decode cX0_table 101 = .ok (.iload_n 2, 1) := by decide +kernel
theorem dX0_table_102 : decode cX0_table 102 = .ok (.iastore, 1) := by decide +kernel
theorem dX0_table_103 : decode cX0_table 103 = .ok (.aload_n 0, 1) := by decide +kernel
theorem dX0_table_104 : decode cX0_table 104 = .ok (.dup, 1) := by decide +kernel
theorem dX0_table_105 : decode cX0_table 105 = .ok (.getfield 135, 3) := by decide +kernel
theorem dX0_table_108 : decode cX0_table 108 = .ok (.iconst 1, 1) := by decide +kernel
theorem dX0_table_109 : decode cX0_table 109 = .ok (.iadd, 1) := by decide +kernel
theorem dX0_table_110 : decode cX0_table 110 = .ok (.putfield 135, 3) := by decide +kernel
theorem dX0_table_113 : decode cX0_table 113 = .ok (.aload_n 0, 1) := by decide +kernel
theorem dX0_table_114 : decode cX0_table 114 = .ok (.getfield 135, 3) := by decide +kernel
theorem dX0_table_117 : decode cX0_table 117 = .ok (.ireturn, 1) := by decide +kernel
theorem dL_convert_0 : decode cL_convert 0 = .ok (.aload_n 3, 1) := by decide +kernel
theorem dL_convert_1 : decode cL_convert 1 = .ok (.iconst 0, 1) := by decide +kernel
theorem dL_convert_2 : decode cL_convert 2 = .ok (.aload_n 0, 1) := by decide +kernel
theorem dL_convert_3 : decode cL_convert 3 = .ok (.iload_n 1, 1) := by decide +kernel
theorem dL_convert_4 : decode cL_convert 4 = .ok (.iload_n 2, 1) := by decide +kernel
theorem dL_convert_5 : decode cL_convert 5 = .ok (.invokevirtual 49, 3) := by decide +kernel
theorem dL_convert_8 : decode cL_convert 8 = .ok (.i2l, 1) := by decide +kernel
theorem dL_convert_9 : decode cL_convert 9 = .ok (.lastore, 1) := by decide +kernel
theorem dL_convert_10 : decode cL_convert 10 = .ok (.goto 19, 3) := by decide +kernel
theorem dL_convert_13 : decode cL_convert 13 = .ok (.astore 4, 2) := by decide +kernel
theorem dL_convert_15 : decode cL_convert 15 = .ok (.iconst 1, 1) := by decide +kernel
theorem dL_convert_16 : decode cL_convert 16 = .ok (.ireturn, 1) := by decide +kernel
theorem dL_convert_17 : decode cL_convert 17 = .ok (.astore 4, 2) := by decide +kernel
theorem dL_convert_19 : decode cL_convert 19 = .ok (.iconst 2, 1) := by decide +kernel
theorem dL_convert_20 : decode cL_convert 20 = .ok (.ireturn, 1) := by decide +kernel
theorem dL_convert_21 : decode cL_convert 21 = .ok (.astore 4, 2) := by decide +kernel
theorem dL_convert_23 : decode cL_convert 23 = .ok (.iconst 3, 1) := by decide +kernel
theorem dL_convert_24 : decode cL_convert 24 = .ok (.ireturn, 1) := by decide +kernel
theorem dL_convert_25 : decode cL_convert 25 = .ok (.astore 4, 2) := by decide +kernel
theorem dL_convert_27 : decode cL_convert 27 = .ok (.iconst 4, 1) := by decide +kernel
theorem dL_convert_28 : decode cL_convert 28 = .ok (.ireturn, 1) := by decide +kernel
theorem dL_convert_29 : decode cL_convert 29 = .ok (.iconst 0, 1) := by decide +kernel
theorem dL_convert_30 : decode cL_convert 30 = .ok (.ireturn, 1) := by decide +kernel
theorem dX0_convert_0 : decode cX0_convert 0 = .ok (.iload_n 2, 1) := by decide +kernel
theorem dX0_convert_1 : decode cX0_convert 1 = .ok (.invokestatic 142, 3) := by decide +kernel
theorem dX0_convert_4 : decode cX0_convert 4 = .ok (.aload_n 0, 1) := by decide +kernel
theorem dX0_convert_5 : decode cX0_convert 5 = .ok (.getfield 135, 3) := by decide +kernel
theorem dX0_convert_8 : decode cX0_convert 8 = .ok (.ifCond .ne 13, 3) := by decide +kernel
theorem dX0_convert_11 : decode cX0_convert 11 = .ok (.new 79, 3) := by decide +kernel
theorem dX0_convert_14 : decode cX0_convert 14 = .ok (.dup, 1) := by decide +kernel
theorem dX0_convert_15 : decode cX0_convert 15 = .ok (.ldc 145, 2) := by decide +kernel
theorem dX0_convert_17 : decode cX0_convert 17 = .ok (.invokespecial 83, 3) := by decide +kernel
theorem dX0_convert_20 : decode cX0_convert 20 = .ok (.athrow, 1) := by decide +kernel
theorem dX0_convert_21 : decode cX0_convert 21 = .ok (.iload_n 1, 1) := by decide +kernel
theorem dX0_convert_22 : decode cX0_convert 22 = .ok (.iconst 0, 1) := by decide +kernel
theorem dX0_convert_23 : decode cX0_convert 23 = .ok (.sipush 2000, 3) := by decide +kernel
theorem dX0_convert_26 : decode cX0_convert 26 = .ok (.invokestatic 23, 3) := by decide +kernel
theorem dX0_convert_29 : decode cX0_convert 29 = .ok (.ifCond .ne 13, 3) := by decide +kernel
theorem dX0_convert_32 : decode cX0_convert 32 = .ok (.new 27, 3) := by decide +kernel
theorem dX0_convert_35 : decode cX0_convert 35 = .ok (.dup, 1) := by decide +kernel
theorem dX0_convert_36 : decode cX0_convert 36 = .ok (.ldc 133, 2) := by decide +kernel
theorem dX0_convert_38 : decode cX0_convert 38 = .ok (.invokespecial 31, 3) := by decide +kernel
theorem dX0_convert_41 : decode cX0_convert 41 = .ok (.athrow, 1) := by decide +kernel
theorem dX0_convert_42 : decode cX0_convert 42 = .ok (.iload_n 1, 1) := by decide +kernel
theorem dX0_convert_43 : decode cX0_convert 43 = .ok (.aload_n 0, 1) := by decide +kernel
theorem dX0_convert_44 : decode cX0_convert 44 = .ok (.getfield 16, 3) := by decide +kernel
theorem dX0_convert_47 : decode cX0_convert 47 = .ok (.iconst 0, 1) := by decide +kernel
theorem dX0_convert_48 : decode cX0_convert 48 = .ok (.iaload, 1) := by decide +kernel
theorem dX0_convert_49 : decode cX0_convert 49 = .ok (.if_icmp .lt 18, 3) := by decide +kernel
theorem dX0_convert_52 : decode cX0_convert 52 = .ok (.iload_n 1, 1) := by decide +kernel
theorem dX0_convert_53 : decode cX0_convert 53 = .ok (.aload_n 0, 1) := by decide +kernel
theorem dX0_convert_54 : decode cX0_convert 54 = .ok (.getfield 16, 3) := by decide +kernel
theorem dX0_convert_57 : decode cX0_convert 57 = .ok (.aload_n 0, 1) := by decide +kernel
theorem dX0_convert_58 : decode cX0_convert 58 = .ok (.getfield 135, 3) := by decide +kernel
theorem dX0_convert_61 : decode cX0_convert 61 = .ok (.iconst 1, 1) := by decide +kernel
theorem dX0_convert_62 : decode cX0_convert 62 = .ok (.isub, 1) := by decide +kernel
theorem dX0_convert_63 : decode cX0_convert 63 = .ok (.iaload, 1) := by decide +kernel
theorem dX0_convert_64 : decode cX0_convert 64 = .ok (.if_icmp .le 13, 3) := by decide +kernel
theorem dX0_convert_67 : decode cX0_convert 67 = .ok (.new 40, 3) := by decide +kernel
theorem dX0_convert_70 : decode cX0_convert 70 = .ok (.dup, 1) := by decide +kernel
theorem dX0_convert_71 : decode cX0_convert 71 = .ok (.ldc 147, 2) := by decide +kernel
theorem dX0_convert_73 : decode cX0_convert 73 = .ok (.invokespecial 44, 3) := by decide +kernel
theorem dX0_convert_76 : decode cX0_convert 76 = .ok (.athrow, 1) := by decide +kernel
theorem dX0_convert_77 : decode cX0_convert 77 = .ok (.aload_n 0, 1) := by decide +kernel
theorem dX0_convert_78 : decode cX0_convert 78 = .ok (.iload_n 1, 1) := by decide +kernel
theorem dX0_convert_79 : decode cX0_convert 79 = .ok (.invokevirtual 149, 3) := by decide +kernel
theorem dX0_convert_82 : decode cX0_convert 82 = .ok (.istore_n 3, 1) := by decide +kernel
theorem dX0_convert_83 : decode cX0_convert 83 = .ok (.iload_n 3, 1) := by decide +kernel
theorem dX0_convert_84 : decode cX0_convert 84 = .ok (.iconst 1, 1) := by decide +kernel
theorem dX0_convert_85 : decode cX0_convert 85 = .ok (.if_icmp .ge 10, 3) := by decide +kernel
theorem dX0_convert_88 : decode cX0_convert 88 = .ok (.aload_n 0, 1) := by decide +kernel
theorem dX0_convert_89 : decode cX0_convert 89 = .ok (.getfield 19, 3) := by decide +kernel
theorem dX0_convert_92 : decode cX0_convert 92 = .ok (.iconst 0, 1) := by decide +kernel
theorem dX0_convert_93 : decode cX0_convert 93 = .ok (.iaload, 1) := by decide +kernel
theorem dX0_convert_94 : decode cX0_convert 94 = .ok (.ireturn, 1) := by decide +kernel
theorem dX0_convert_95 : decode cX0_convert 95 = .ok (.aload_n 0, 1) := by decide +kernel
theorem dX0_convert_96 : decode cX0_convert 96 = .ok (.getfield 16, 3) := by decide +kernel
theorem dX0_convert_99 : decode cX0_convert 99 = .ok (.iload_n 3, 1) := by decide +kernel
theorem dX0_convert_100 : decode cX0_convert 100 = .ok (.iaload, 1) := by decide +kernel
theorem dX0_convert_101 : decode cX0_convert 101 = .ok (.aload_n 0, 1) := by decide +kernel
theorem dX0_convert_102 : decode cX0_convert 102 = .ok (.getfield 16, 3) := by decide +kernel
theorem dX0_convert_105 : decode cX0_convert 105 = .ok (.iload_n 3, 1) := by decide +kernel
theorem dX0_convert_106 : decode cX0_convert 106 = .ok (.iconst 1, 1) := by decide +kernel
theorem dX0_convert_107 : decode cX0_convert 107 = .ok (.isub, 1) := by decide +kernel
theorem dX0_convert_108 : decode cX0_convert 108 = .ok (.iaload, 1) := by decide +kernel
theorem dX0_convert_109 : decode cX0_convert 109 = .ok (.isub, 1) := by decide +kernel
theorem dX0_convert_110 : decode cX0_convert 110 = .ok (.i2l, 1) := by decide +kernel
theorem dX0_convert_111 : decode cX0_convert 111 = .ok (.lstore 4, 2) := by decide +kernel
theorem dX0_convert_113 : decode cX0_convert 113 = .ok (.aload_n 0, 1) := by decide +kernel
theorem dX0_convert_114 : decode cX0_convert 114 = .ok (.getfield 19, 3) := by decide +kernel
theorem dX0_convert_117 : decode cX0_convert 117 = .ok (.iload_n 3, 1) := by decide +kernel
theorem dX0_convert_118 : decode cX0_convert 118 = .ok (.iconst 1, 1) := by decide +kernel
theorem dX0_convert_119 : decode cX0_convert 119 = .ok (.isub, 1) := by decide +kernel
theorem dX0_convert_120 : decode cX0_convert 120 = .ok (.iaload, 1) := by decide +kernel
theorem dX0_convert_121 : decode cX0_convert 121 = .ok (.i2l, 1) := by decide +kernel
theorem dX0_convert_122 : decode cX0_convert 122 = .ok (.lload 4, 2) := by decide +kernel
theorem dX0_convert_124 : decode cX0_convert 124 = .ok (.lmul, 1) := by decide +kernel
theorem dX0_convert_125 : decode cX0_convert 125 = .ok (.aload_n 0, 1) := by decide +kernel
theorem dX0_convert_126 : decode cX0_convert 126 = .ok (.getfield 19, 3) := by decide +kernel
theorem dX0_convert_129 : decode cX0_convert 129 = .ok (.iload_n 3, 1) := by decide +kernel
theorem dX0_convert_130 : decode cX0_convert 130 = .ok (.iaload, 1) := by decide +kernel
theorem dX0_convert_131 : decode cX0_convert 131 = .ok (.aload_n 0, 1) := by decide +kernel
theorem dX0_convert_132 : decode cX0_convert 132 = .ok (.getfield 19, 3) := by decide +kernel
theorem dX0_convert_135 : decode cX0_convert 135 = .ok (.iload_n 3, 1) := by decide +kernel
theorem dX0_convert_136 : decode cX0_convert 136 = .ok (.iconst 1, 1) := by decide +kernel
theorem dX0_convert_137 : decode cX0_convert 137 = .ok (.isub, 1) := by decide +kernel
theorem dX0_convert_138 : decode cX0_convert 138 = .ok (.iaload, 1) := by decide +kernel
theorem dX0_convert_139 : decode cX0_convert 139 = .ok (.isub, 1) := by decide +kernel
theorem dX0_convert_140 : decode cX0_convert 140 = .ok (.i2l, 1) := by decide +kernel
theorem dX0_convert_141 : decode cX0_convert 141 = .ok (.iload_n 1, 1) := by decide +kernel
theorem dX0_convert_142 : decode cX0_convert 142 = .ok (.aload_n 0, 1) := by decide +kernel
theorem dX0_convert_143 : decode cX0_convert 143 = .ok (.getfield 16, 3) := by decide +kernel
theorem dX0_convert_146 : decode cX0_convert 146 = .ok (.iload_n 3, 1) := by decide +kernel
theorem dX0_convert_147 : decode cX0_convert 147 = .ok (.iconst 1, 1) := by decide +kernel
theorem dX0_convert_148 : decode cX0_convert 148 = .ok (.isub, 1) := by decide +kernel
theorem dX0_convert_149 : decode cX0_convert 149 = .ok (.iaload, 1) := by decide +kernel
theorem dX0_convert_150 : decode cX0_convert 150 = .ok (.isub, 1) := by decide +kernel
theorem dX0_convert_151 : decode cX0_convert 151 = .ok (.i2l, 1) := by decide +kernel
theorem dX0_convert_152 : decode cX0_convert 152 = .ok (.lmul, 1) := by decide +kernel
theorem dX0_convert_153 : decode cX0_convert 153 = .ok (.ladd, 1) := by decide +kernel
theorem dX0_convert_154 : decode cX0_convert 154 = .ok (.lstore 6, 2) := by decide +kernel
theorem dX0_convert_156 : decode cX0_convert 156 = .ok (.lload 6, 2) := by decide +kernel
theorem dX0_convert_158 : decode cX0_convert 158 = .ok (.lload 4, 2) := by decide +kernel
theorem dX0_convert_160 : decode cX0_convert 160 = .ok (.iload_n 2, 1) := by decide +kernel
theorem dX0_convert_161 : decode cX0_convert 161 = .ok (.invokestatic 152, 3) := by decide +kernel
theorem dX0_convert_164 : decode cX0_convert 164 = .ok (.l2i, 1) := by decide +kernel
theorem dX0_convert_165 : decode cX0_convert 165 = .ok (.ireturn, 1) := by decide +kernel
theorem dX0_refuseNoSuchRule_0 : decode cX0_refuseNoSuchRule 0 = .ok (.iload_n 0, 1) := by decide +kernel
theorem dX0_refuseNoSuchRule_1 : decode cX0_refuseNoSuchRule 1 = .ok (.iconst 0, 1) := by decide +kernel
theorem dX0_refuseNoSuchRule_2 : decode cX0_refuseNoSuchRule 2 = .ok (.iconst 2, 1) := by decide +kernel
theorem dX0_refuseNoSuchRule_3 : decode cX0_refuseNoSuchRule 3 = .ok (.invokestatic 23, 3) := by decide +kernel
theorem dX0_refuseNoSuchRule_6 : decode cX0_refuseNoSuchRule 6 = .ok (.ifCond .ne 13, 3) := by decide +kernel
theorem dX0_refuseNoSuchRule_9 : decode cX0_refuseNoSuchRule 9 = .ok (.new 95, 3) := by decide +kernel
theorem dX0_refuseNoSuchRule_12 : decode cX0_refuseNoSuchRule 12 = .ok (.dup, 1) := by decide +kernel
theorem dX0_refuseNoSuchRule_13 : decode cX0_refuseNoSuchRule 13 = .ok (.ldc 180, 2) := by decide +kernel
theorem dX0_refuseNoSuchRule_15 : decode cX0_refuseNoSuchRule 15 = .ok (.invokespecial 99, 3) := by decide +kernel
theorem dX0_refuseNoSuchRule_18 : decode cX0_refuseNoSuchRule 18 = .ok (.athrow, 1) := by decide +kernel
theorem dX0_refuseNoSuchRule_19 : decode cX0_refuseNoSuchRule 19 = .ok (.return_, 1) := by decide +kernel
theorem dX0_firstTableRowFrom_0 : decode cX0_firstTableRowFrom 0 = .ok (.iconst 0, 1) := by decide +kernel
theorem dX0_firstTableRowFrom_1 : decode cX0_firstTableRowFrom 1 = .ok (.istore_n 2, 1) := by decide +kernel
theorem dX0_firstTableRowFrom_2 : decode cX0_firstTableRowFrom 2 = .ok (.iload_n 2, 1) := by decide +kernel
theorem dX0_firstTableRowFrom_3 : decode cX0_firstTableRowFrom 3 = .ok (.aload_n 0, 1) := by decide +kernel
theorem dX0_firstTableRowFrom_4 : decode cX0_firstTableRowFrom 4 = .ok (.getfield 135, 3) := by decide +kernel
theorem dX0_firstTableRowFrom_7 : decode cX0_firstTableRowFrom 7 = .ok (.if_icmp .ge 21, 3) := by decide +kernel
theorem dX0_firstTableRowFrom_10 : decode cX0_firstTableRowFrom 10 = .ok (.aload_n 0, 1) := by decide +kernel
theorem dX0_firstTableRowFrom_11 : decode cX0_firstTableRowFrom 11 = .ok (.getfield 16, 3) := by decide +kernel
theorem dX0_firstTableRowFrom_14 : decode cX0_firstTableRowFrom 14 = .ok (.iload_n 2, 1) := by decide +kernel
theorem dX0_firstTableRowFrom_15 : decode cX0_firstTableRowFrom 15 = .ok (.iaload, 1) := by decide +kernel
theorem dX0_firstTableRowFrom_16 : decode cX0_firstTableRowFrom 16 = .ok (.iload_n 1, 1) := by decide +kernel
theorem dX0_firstTableRowFrom_17 : decode cX0_firstTableRowFrom 17 = .ok (.if_icmp .lt 5, 3) := by decide +kernel
theorem dX0_firstTableRowFrom_20 : decode cX0_firstTableRowFrom 20 = .ok (.iload_n 2, 1) := by decide +kernel
theorem dX0_firstTableRowFrom_21 : decode cX0_firstTableRowFrom 21 = .ok (.ireturn, 1) := by decide +kernel
theorem dX0_firstTableRowFrom_22 : decode cX0_firstTableRowFrom 22 = .ok (.iinc 2 1, 3) := by decide +kernel
theorem dX0_firstTableRowFrom_25 : decode cX0_firstTableRowFrom 25 = .ok (.goto (-23), 3) := by decide +kernel
theorem dX0_firstTableRowFrom_28 : decode cX0_firstTableRowFrom 28 = .ok (.iconst (-1), 1) := by decide +kernel
theorem dX0_firstTableRowFrom_29 : decode cX0_firstTableRowFrom 29 = .ok (.ireturn, 1) := by decide +kernel
theorem dX0_roundedByRule_0 : decode cX0_roundedByRule 0 = .ok (.lload_n 2, 1) := by decide +kernel
theorem dX0_roundedByRule_1 : decode cX0_roundedByRule 1 = .ok (.lconst 1, 1) := by decide +kernel
theorem dX0_roundedByRule_2 : decode cX0_roundedByRule 2 = .ok (.lcmp, 1) := by decide +kernel
theorem dX0_roundedByRule_3 : decode cX0_roundedByRule 3 = .ok (.ifCond .ge 5, 3) := by decide +kernel
theorem dX0_roundedByRule_6 : decode cX0_roundedByRule 6 = .ok (.lload_n 0, 1) := by decide +kernel
theorem dX0_roundedByRule_7 : decode cX0_roundedByRule 7 = .ok (.lreturn, 1) := by decide +kernel
theorem dX0_roundedByRule_8 : decode cX0_roundedByRule 8 = .ok (.lload_n 0, 1) := by decide +kernel
theorem dX0_roundedByRule_9 : decode cX0_roundedByRule 9 = .ok (.lload_n 2, 1) := by decide +kernel
theorem dX0_roundedByRule_10 : decode cX0_roundedByRule 10 = .ok (.invokestatic 182, 3) := by decide +kernel
theorem dX0_roundedByRule_13 : decode cX0_roundedByRule 13 = .ok (.lstore 5, 2) := by decide +kernel
theorem dX0_roundedByRule_15 : decode cX0_roundedByRule 15 = .ok (.ldc2_w 186, 3) := by decide +kernel
theorem dX0_roundedByRule_18 : decode cX0_roundedByRule 18 = .ok (.lload_n 0, 1) := by decide +kernel
theorem dX0_roundedByRule_19 : decode cX0_roundedByRule 19 = .ok (.lload 5, 2) := by decide +kernel
theorem dX0_roundedByRule_21 : decode cX0_roundedByRule 21 = .ok (.lload_n 2, 1) := by decide +kernel
theorem dX0_roundedByRule_22 : decode cX0_roundedByRule 22 = .ok (.lmul, 1) := by decide +kernel
theorem dX0_roundedByRule_23 : decode cX0_roundedByRule 23 = .ok (.lsub, 1) := by decide +kernel
theorem dX0_roundedByRule_24 : decode cX0_roundedByRule 24 = .ok (.lmul, 1) := by decide +kernel
theorem dX0_roundedByRule_25 : decode cX0_roundedByRule 25 = .ok (.lstore 7, 2) := by decide +kernel
theorem dX0_roundedByRule_27 : decode cX0_roundedByRule 27 = .ok (.iload 4, 2) := by decide +kernel
theorem dX0_roundedByRule_29 : decode cX0_roundedByRule 29 = .ok (.iconst 2, 1) := by decide +kernel
theorem dX0_roundedByRule_30 : decode cX0_roundedByRule 30 = .ok (.if_icmp .eq 10, 3) := by decide +kernel
theorem dX0_roundedByRule_33 : decode cX0_roundedByRule 33 = .ok (.lload 7, 2) := by decide +kernel
theorem dX0_roundedByRule_35 : decode cX0_roundedByRule 35 = .ok (.lload_n 2, 1) := by decide +kernel
theorem dX0_roundedByRule_36 : decode cX0_roundedByRule 36 = .ok (.lcmp, 1) := by decide +kernel
theorem dX0_roundedByRule_37 : decode cX0_roundedByRule 37 = .ok (.ifCond .ge 6, 3) := by decide +kernel
theorem dX0_roundedByRule_40 : decode cX0_roundedByRule 40 = .ok (.lload 5, 2) := by decide +kernel
theorem dX0_roundedByRule_42 : decode cX0_roundedByRule 42 = .ok (.lreturn, 1) := by decide +kernel
theorem dX0_roundedByRule_43 : decode cX0_roundedByRule 43 = .ok (.lload 7, 2) := by decide +kernel
theorem dX0_roundedByRule_45 : decode cX0_roundedByRule 45 = .ok (.lload_n 2, 1) := by decide +kernel
theorem dX0_roundedByRule_46 : decode cX0_roundedByRule 46 = .ok (.lcmp, 1) := by decide +kernel
theorem dX0_roundedByRule_47 : decode cX0_roundedByRule 47 = .ok (.ifCond .ne 7, 3) := by decide +kernel
theorem dX0_roundedByRule_50 : decode cX0_roundedByRule 50 = .ok (.iconst 1, 1) := by decide +kernel
theorem dX0_roundedByRule_51 : decode cX0_roundedByRule 51 = .ok (.goto 4, 3) := by decide +kernel
theorem dX0_roundedByRule_54 : decode cX0_roundedByRule 54 = .ok (.iconst 0, 1) := by decide +kernel
theorem dX0_roundedByRule_55 : decode cX0_roundedByRule 55 = .ok (.istore 9, 2) := by decide +kernel
theorem dX0_roundedByRule_57 : decode cX0_roundedByRule 57 = .ok (.lload 5, 2) := by decide +kernel
theorem dX0_roundedByRule_59 : decode cX0_roundedByRule 59 = .ok (.lconst 1, 1) := by decide +kernel
theorem dX0_roundedByRule_60 : decode cX0_roundedByRule 60 = .ok (.land, 1) := by decide +kernel
theorem dX0_roundedByRule_61 : decode cX0_roundedByRule 61 = .ok (.lconst 0, 1) := by decide +kernel
theorem dX0_roundedByRule_62 : decode cX0_roundedByRule 62 = .ok (.lcmp, 1) := by decide +kernel
theorem dX0_roundedByRule_63 : decode cX0_roundedByRule 63 = .ok (.ifCond .ne 7, 3) := by decide +kernel
theorem dX0_roundedByRule_66 : decode cX0_roundedByRule 66 = .ok (.iconst 1, 1) := by decide +kernel
theorem dX0_roundedByRule_67 : decode cX0_roundedByRule 67 = .ok (.goto 4, 3) := by decide +kernel
theorem dX0_roundedByRule_70 : decode cX0_roundedByRule 70 = .ok (.iconst 0, 1) := by decide +kernel
theorem dX0_roundedByRule_71 : decode cX0_roundedByRule 71 = .ok (.istore 10, 2) := by decide +kernel
theorem dX0_roundedByRule_73 : decode cX0_roundedByRule 73 = .ok (.iload 9, 2) := by decide +kernel
theorem dX0_roundedByRule_75 : decode cX0_roundedByRule 75 = .ok (.ifCond .eq 19, 3) := by decide +kernel
theorem dX0_roundedByRule_78 : decode cX0_roundedByRule 78 = .ok (.iload 10, 2) := by decide +kernel
theorem dX0_roundedByRule_80 : decode cX0_roundedByRule 80 = .ok (.ifCond .eq 14, 3) := by decide +kernel
theorem dX0_roundedByRule_83 : decode cX0_roundedByRule 83 = .ok (.iload 4, 2) := by decide +kernel
theorem dX0_roundedByRule_85 : decode cX0_roundedByRule 85 = .ok (.iconst 1, 1) := by decide +kernel
theorem dX0_roundedByRule_86 : decode cX0_roundedByRule 86 = .ok (.if_icmp .ne 8, 3) := by decide +kernel
theorem dX0_roundedByRule_89 : decode cX0_roundedByRule 89 = .ok (.lload 5, 2) := by decide +kernel
theorem dX0_roundedByRule_91 : decode cX0_roundedByRule 91 = .ok (.goto 7, 3) := by decide +kernel
theorem dX0_roundedByRule_94 : decode cX0_roundedByRule 94 = .ok (.lload 5, 2) := by decide +kernel
theorem dX0_roundedByRule_96 : decode cX0_roundedByRule 96 = .ok (.lconst 1, 1) := by decide +kernel
theorem dX0_roundedByRule_97 : decode cX0_roundedByRule 97 = .ok (.ladd, 1) := by decide +kernel
theorem dX0_roundedByRule_98 : decode cX0_roundedByRule 98 = .ok (.lreturn, 1) := by decide +kernel
theorem dJ_floorDiv_0 : decode cJ_floorDiv 0 = .ok (.lload_n 0, 1) := by decide +kernel
theorem dJ_floorDiv_1 : decode cJ_floorDiv 1 = .ok (.lload_n 2, 1) := by decide +kernel
theorem dJ_floorDiv_2 : decode cJ_floorDiv 2 = .ok (.ldiv, 1) := by decide +kernel
theorem dJ_floorDiv_3 : decode cJ_floorDiv 3 = .ok (.lstore 4, 2) := by decide +kernel
theorem dJ_floorDiv_5 : decode cJ_floorDiv 5 = .ok (.lload_n 0, 1) := by decide +kernel
theorem dJ_floorDiv_6 : decode cJ_floorDiv 6 = .ok (.lload_n 2, 1) := by decide +kernel
theorem dJ_floorDiv_7 : decode cJ_floorDiv 7 = .ok (.lxor, 1) := by decide +kernel
theorem dJ_floorDiv_8 : decode cJ_floorDiv 8 = .ok (.lconst 0, 1) := by decide +kernel
theorem dJ_floorDiv_9 : decode cJ_floorDiv 9 = .ok (.lcmp, 1) := by decide +kernel
theorem dJ_floorDiv_10 : decode cJ_floorDiv 10 = .ok (.ifCond .ge 17, 3) := by decide +kernel
theorem dJ_floorDiv_13 : decode cJ_floorDiv 13 = .ok (.lload 4, 2) := by decide +kernel
theorem dJ_floorDiv_15 : decode cJ_floorDiv 15 = .ok (.lload_n 2, 1) := by decide +kernel
theorem dJ_floorDiv_16 : decode cJ_floorDiv 16 = .ok (.lmul, 1) := by decide +kernel
theorem dJ_floorDiv_17 : decode cJ_floorDiv 17 = .ok (.lload_n 0, 1) := by decide +kernel
theorem dJ_floorDiv_18 : decode cJ_floorDiv 18 = .ok (.lcmp, 1) := by decide +kernel
theorem dJ_floorDiv_19 : decode cJ_floorDiv 19 = .ok (.ifCond .eq 8, 3) := by decide +kernel
theorem dJ_floorDiv_22 : decode cJ_floorDiv 22 = .ok (.lload 4, 2) := by decide +kernel
theorem dJ_floorDiv_24 : decode cJ_floorDiv 24 = .ok (.lconst 1, 1) := by decide +kernel
theorem dJ_floorDiv_25 : decode cJ_floorDiv 25 = .ok (.lsub, 1) := by decide +kernel
theorem dJ_floorDiv_26 : decode cJ_floorDiv 26 = .ok (.lreturn, 1) := by decide +kernel
theorem dJ_floorDiv_27 : decode cJ_floorDiv 27 = .ok (.lload 4, 2) := by decide +kernel
theorem dJ_floorDiv_29 : decode cJ_floorDiv 29 = .ok (.lreturn, 1) := by decide +kernel
theorem dL_round_0 : decode cL_round 0 = .ok (.aload 6, 2) := by decide +kernel
theorem dL_round_2 : decode cL_round 2 = .ok (.iconst 0, 1) := by decide +kernel
theorem dL_round_3 : decode cL_round 3 = .ok (.aload_n 0, 1) := by decide +kernel
theorem dL_round_4 : decode cL_round 4 = .ok (.lload_n 1, 1) := by decide +kernel
theorem dL_round_5 : decode cL_round 5 = .ok (.lload_n 3, 1) := by decide +kernel
theorem dL_round_6 : decode cL_round 6 = .ok (.iload 5, 2) := by decide +kernel
theorem dL_round_8 : decode cL_round 8 = .ok (.invokevirtual 52, 3) := by decide +kernel
theorem dL_round_11 : decode cL_round 11 = .ok (.lastore, 1) := by decide +kernel
theorem dL_round_12 : decode cL_round 12 = .ok (.goto 11, 3) := by decide +kernel
theorem dL_round_15 : decode cL_round 15 = .ok (.astore 7, 2) := by decide +kernel
theorem dL_round_17 : decode cL_round 17 = .ok (.iconst 1, 1) := by decide +kernel
theorem dL_round_18 : decode cL_round 18 = .ok (.ireturn, 1) := by decide +kernel
theorem dL_round_19 : decode cL_round 19 = .ok (.astore 7, 2) := by decide +kernel
theorem dL_round_21 : decode cL_round 21 = .ok (.iconst 2, 1) := by decide +kernel
theorem dL_round_22 : decode cL_round 22 = .ok (.ireturn, 1) := by decide +kernel
theorem dL_round_23 : decode cL_round 23 = .ok (.iconst 0, 1) := by decide +kernel
theorem dL_round_24 : decode cL_round 24 = .ok (.ireturn, 1) := by decide +kernel
theorem dX0_round_0 : decode cX0_round 0 = .ok (.iload 5, 2) := by decide +kernel
theorem dX0_round_2 : decode cX0_round 2 = .ok (.invokestatic 142, 3) := by decide +kernel
theorem dX0_round_5 : decode cX0_round 5 = .ok (.lload_n 3, 1) := by decide +kernel
