theorem dX0_init_0 : decode cX0_init 0 = .ok (.aload_n 0, 1) := by decide +kernel
theorem dX0_init_1 : decode cX0_init 1 = .ok (.invokespecial 1, 3) := by decide +kernel
theorem dX0_init_4 : decode cX0_init 4 = .ok (.aload_n 0, 1) := by decide +kernel
theorem dX0_init_5 : decode cX0_init 5 = .ok (.bipush 40, 2) := by decide +kernel
theorem dX0_init_7 : decode cX0_init 7 = .ok (.newarray .int, 2) := by decide +kernel
theorem dX0_init_9 : decode cX0_init 9 = .ok (.putfield 9, 3) := by decide +kernel
theorem dX0_init_12 : decode cX0_init 12 = .ok (.aload_n 0, 1) := by decide +kernel
theorem dX0_init_13 : decode cX0_init 13 = .ok (.bipush 40, 2) := by decide +kernel
theorem dX0_init_15 : decode cX0_init 15 = .ok (.newarray .int, 2) := by decide +kernel
theorem dX0_init_17 : decode cX0_init 17 = .ok (.putfield 13, 3) := by decide +kernel
theorem dX0_init_20 : decode cX0_init 20 = .ok (.aload_n 0, 1) := by decide +kernel
theorem dX0_init_21 : decode cX0_init 21 = .ok (.bipush 8, 2) := by decide +kernel
theorem dX0_init_23 : decode cX0_init 23 = .ok (.newarray .int, 2) := by decide +kernel
theorem dX0_init_25 : decode cX0_init 25 = .ok (.putfield 16, 3) := by decide +kernel
theorem dX0_init_28 : decode cX0_init 28 = .ok (.aload_n 0, 1) := by decide +kernel
theorem dX0_init_29 : decode cX0_init 29 = .ok (.bipush 8, 2) := by decide +kernel
theorem dX0_init_31 : decode cX0_init 31 = .ok (.newarray .int, 2) := by decide +kernel
theorem dX0_init_33 : decode cX0_init 33 = .ok (.putfield 19, 3) := by decide +kernel
theorem dX0_init_36 : decode cX0_init 36 = .ok (.return_, 1) := by decide +kernel
theorem dX0_invalid_0 : decode cX0_invalid 0 = .ok (.aload_n 0, 1) := by decide +kernel
theorem dX0_invalid_1 : decode cX0_invalid 1 = .ok (.getfield 47, 3) := by decide +kernel
theorem dX0_invalid_4 : decode cX0_invalid 4 = .ok (.ifCond .ne 5, 3) := by decide +kernel
theorem dX0_invalid_7 : decode cX0_invalid 7 = .ok (.iconst 1, 1) := by decide +kernel
theorem dX0_invalid_8 : decode cX0_invalid 8 = .ok (.ireturn, 1) := by decide +kernel
theorem dX0_invalid_9 : decode cX0_invalid 9 = .ok (.aload_n 0, 1) := by decide +kernel
theorem dX0_invalid_10 : decode cX0_invalid 10 = .ok (.getfield 34, 3) := by decide +kernel
theorem dX0_invalid_13 : decode cX0_invalid 13 = .ok (.iconst 5, 1) := by decide +kernel
theorem dX0_invalid_14 : decode cX0_invalid 14 = .ok (.if_icmp .ge 5, 3) := by decide +kernel
theorem dX0_invalid_17 : decode cX0_invalid 17 = .ok (.iconst 2, 1) := by decide +kernel
theorem dX0_invalid_18 : decode cX0_invalid 18 = .ok (.ireturn, 1) := by decide +kernel
theorem dX0_invalid_19 : decode cX0_invalid 19 = .ok (.aload_n 0, 1) := by decide +kernel
theorem dX0_invalid_20 : decode cX0_invalid 20 = .ok (.invokevirtual 102, 3) := by decide +kernel
theorem dX0_invalid_23 : decode cX0_invalid 23 = .ok (.istore_n 1, 1) := by decide +kernel
theorem dX0_invalid_24 : decode cX0_invalid 24 = .ok (.iload_n 1, 1) := by decide +kernel
theorem dX0_invalid_25 : decode cX0_invalid 25 = .ok (.ifCond .ne 5, 3) := by decide +kernel
theorem dX0_invalid_28 : decode cX0_invalid 28 = .ok (.iconst 3, 1) := by decide +kernel
theorem dX0_invalid_29 : decode cX0_invalid 29 = .ok (.ireturn, 1) := by decide +kernel
theorem dX0_invalid_30 : decode cX0_invalid 30 = .ok (.iload_n 1, 1) := by decide +kernel
theorem dX0_invalid_31 : decode cX0_invalid 31 = .ok (.aload_n 0, 1) := by decide +kernel
theorem dX0_invalid_32 : decode cX0_invalid 32 = .ok (.getfield 34, 3) := by decide +kernel
theorem dX0_invalid_35 : decode cX0_invalid 35 = .ok (.iconst 1, 1) := by decide +kernel
theorem dX0_invalid_36 : decode cX0_invalid 36 = .ok (.isub, 1) := by decide +kernel
theorem dX0_invalid_37 : decode cX0_invalid 37 = .ok (.if_icmp .eq 13, 3) := by decide +kernel
theorem dX0_invalid_40 : decode cX0_invalid 40 = .ok (.aload_n 0, 1) := by decide +kernel
theorem dX0_invalid_41 : decode cX0_invalid 41 = .ok (.iload_n 1, 1) := by decide +kernel
theorem dX0_invalid_42 : decode cX0_invalid 42 = .ok (.invokevirtual 174, 3) := by decide +kernel
theorem dX0_invalid_45 : decode cX0_invalid 45 = .ok (.ifCond .ne 5, 3) := by decide +kernel
theorem dX0_invalid_48 : decode cX0_invalid 48 = .ok (.iconst 4, 1) := by decide +kernel
theorem dX0_invalid_49 : decode cX0_invalid 49 = .ok (.ireturn, 1) := by decide +kernel
theorem dX0_invalid_50 : decode cX0_invalid 50 = .ok (.aload_n 0, 1) := by decide +kernel
theorem dX0_invalid_51 : decode cX0_invalid 51 = .ok (.getfield 170, 3) := by decide +kernel
theorem dX0_invalid_54 : decode cX0_invalid 54 = .ok (.ifCond .eq 7, 3) := by decide +kernel
theorem dX0_invalid_57 : decode cX0_invalid 57 = .ok (.iconst 5, 1) := by decide +kernel
theorem dX0_invalid_58 : decode cX0_invalid 58 = .ok (.goto 4, 3) := by decide +kernel
theorem dX0_invalid_61 : decode cX0_invalid 61 = .ok (.iconst 0, 1) := by decide +kernel
theorem dX0_invalid_62 : decode cX0_invalid 62 = .ok (.ireturn, 1) := by decide +kernel
theorem dX0_firstRowOfGreatestForce_0 : decode cX0_firstRowOfGreatestForce 0 = .ok (.iconst 0, 1) := by decide +kernel
theorem dX0_firstRowOfGreatestForce_1 : decode cX0_firstRowOfGreatestForce 1 = .ok (.istore_n 1, 1) := by decide +kernel
theorem dX0_firstRowOfGreatestForce_2 : decode cX0_firstRowOfGreatestForce 2 = .ok (.iconst 1, 1) := by decide +kernel
theorem dX0_firstRowOfGreatestForce_3 : decode cX0_firstRowOfGreatestForce 3 = .ok (.istore_n 2, 1) := by decide +kernel
theorem dX0_firstRowOfGreatestForce_4 : decode cX0_firstRowOfGreatestForce 4 = .ok (.iload_n 2, 1) := by decide +kernel
theorem dX0_firstRowOfGreatestForce_5 : decode cX0_firstRowOfGreatestForce 5 = .ok (.aload_n 0, 1) := by decide +kernel
theorem dX0_firstRowOfGreatestForce_6 : decode cX0_firstRowOfGreatestForce 6 = .ok (.getfield 34, 3) := by decide +kernel
theorem dX0_firstRowOfGreatestForce_9 : decode cX0_firstRowOfGreatestForce 9 = .ok (.if_icmp .ge 26, 3) := by decide +kernel
theorem dX0_firstRowOfGreatestForce_12 : decode cX0_firstRowOfGreatestForce 12 = .ok (.aload_n 0, 1) := by decide +kernel
theorem dX0_firstRowOfGreatestForce_13 : decode cX0_firstRowOfGreatestForce 13 = .ok (.getfield 13, 3) := by decide +kernel
theorem dX0_firstRowOfGreatestForce_16 : decode cX0_firstRowOfGreatestForce 16 = .ok (.iload_n 2, 1) := by decide +kernel
theorem dX0_firstRowOfGreatestForce_17 : decode cX0_firstRowOfGreatestForce 17 = .ok (.iaload, 1) := by decide +kernel
theorem dX0_firstRowOfGreatestForce_18 : decode cX0_firstRowOfGreatestForce 18 = .ok (.aload_n 0, 1) := by decide +kernel
theorem dX0_firstRowOfGreatestForce_19 : decode cX0_firstRowOfGreatestForce 19 = .ok (.getfield 13, 3) := by decide +kernel
theorem dX0_firstRowOfGreatestForce_22 : decode cX0_firstRowOfGreatestForce 22 = .ok (.iload_n 1, 1) := by decide +kernel
theorem dX0_firstRowOfGreatestForce_23 : decode cX0_firstRowOfGreatestForce 23 = .ok (.iaload, 1) := by decide +kernel
theorem dX0_firstRowOfGreatestForce_24 : decode cX0_firstRowOfGreatestForce 24 = .ok (.if_icmp .le 5, 3) := by decide +kernel
theorem dX0_firstRowOfGreatestForce_27 : decode cX0_firstRowOfGreatestForce 27 = .ok (.iload_n 2, 1) := by decide +kernel
theorem dX0_firstRowOfGreatestForce_28 : decode cX0_firstRowOfGreatestForce 28 = .ok (.istore_n 1, 1) := by decide +kernel
theorem dX0_firstRowOfGreatestForce_29 : decode cX0_firstRowOfGreatestForce 29 = .ok (.iinc 2 1, 3) := by decide +kernel
theorem dX0_firstRowOfGreatestForce_32 : decode cX0_firstRowOfGreatestForce 32 = .ok (.goto (-28), 3) := by decide +kernel
theorem dX0_firstRowOfGreatestForce_35 : decode cX0_firstRowOfGreatestForce 35 = .ok (.iload_n 1, 1) := by decide +kernel
theorem dX0_firstRowOfGreatestForce_36 : decode cX0_firstRowOfGreatestForce 36 = .ok (.ireturn, 1) := by decide +kernel
theorem dX0_fallsBelowHalfBehind_0 : decode cX0_fallsBelowHalfBehind 0 = .ok (.iload_n 1, 1) := by decide +kernel
theorem dX0_fallsBelowHalfBehind_1 : decode cX0_fallsBelowHalfBehind 1 = .ok (.iconst 1, 1) := by decide +kernel
theorem dX0_fallsBelowHalfBehind_2 : decode cX0_fallsBelowHalfBehind 2 = .ok (.iadd, 1) := by decide +kernel
theorem dX0_fallsBelowHalfBehind_3 : decode cX0_fallsBelowHalfBehind 3 = .ok (.istore_n 2, 1) := by decide +kernel
theorem dX0_fallsBelowHalfBehind_4 : decode cX0_fallsBelowHalfBehind 4 = .ok (.iload_n 2, 1) := by decide +kernel
theorem dX0_fallsBelowHalfBehind_5 : decode cX0_fallsBelowHalfBehind 5 = .ok (.aload_n 0, 1) := by decide +kernel
theorem dX0_fallsBelowHalfBehind_6 : decode cX0_fallsBelowHalfBehind 6 = .ok (.getfield 34, 3) := by decide +kernel
theorem dX0_fallsBelowHalfBehind_9 : decode cX0_fallsBelowHalfBehind 9 = .ok (.if_icmp .ge 28, 3) := by decide +kernel
theorem dX0_fallsBelowHalfBehind_12 : decode cX0_fallsBelowHalfBehind 12 = .ok (.aload_n 0, 1) := by decide +kernel
theorem dX0_fallsBelowHalfBehind_13 : decode cX0_fallsBelowHalfBehind 13 = .ok (.getfield 13, 3) := by decide +kernel
theorem dX0_fallsBelowHalfBehind_16 : decode cX0_fallsBelowHalfBehind 16 = .ok (.iload_n 2, 1) := by decide +kernel
theorem dX0_fallsBelowHalfBehind_17 : decode cX0_fallsBelowHalfBehind 17 = .ok (.iaload, 1) := by decide +kernel
theorem dX0_fallsBelowHalfBehind_18 : decode cX0_fallsBelowHalfBehind 18 = .ok (.iconst 2, 1) := by decide +kernel
theorem dX0_fallsBelowHalfBehind_19 : decode cX0_fallsBelowHalfBehind 19 = .ok (.imul, 1) := by decide +kernel
theorem dX0_fallsBelowHalfBehind_20 : decode cX0_fallsBelowHalfBehind 20 = .ok (.aload_n 0, 1) := by decide +kernel
theorem dX0_fallsBelowHalfBehind_21 : decode cX0_fallsBelowHalfBehind 21 = .ok (.getfield 13, 3) := by decide +kernel
theorem dX0_fallsBelowHalfBehind_24 : decode cX0_fallsBelowHalfBehind 24 = .ok (.iload_n 1, 1) := by decide +kernel
theorem dX0_fallsBelowHalfBehind_25 : decode cX0_fallsBelowHalfBehind 25 = .ok (.iaload, 1) := by decide +kernel
theorem dX0_fallsBelowHalfBehind_26 : decode cX0_fallsBelowHalfBehind 26 = .ok (.if_icmp .ge 5, 3) := by decide +kernel
theorem dX0_fallsBelowHalfBehind_29 : decode cX0_fallsBelowHalfBehind 29 = .ok (.iconst 1, 1) := by decide +kernel
theorem dX0_fallsBelowHalfBehind_30 : decode cX0_fallsBelowHalfBehind 30 = .ok (.ireturn, 1) := by decide +kernel
theorem dX0_fallsBelowHalfBehind_31 : decode cX0_fallsBelowHalfBehind 31 = .ok (.iinc 2 1, 3) := by decide +kernel
theorem dX0_fallsBelowHalfBehind_34 : decode cX0_fallsBelowHalfBehind 34 = .ok (.goto (-30), 3) := by decide +kernel
theorem dX0_fallsBelowHalfBehind_37 : decode cX0_fallsBelowHalfBehind 37 = .ok (.iconst 0, 1) := by decide +kernel
theorem dX0_fallsBelowHalfBehind_38 : decode cX0_fallsBelowHalfBehind 38 = .ok (.ireturn, 1) := by decide +kernel
theorem dX0_clear_0 : decode cX0_clear 0 = .ok (.aload_n 0, 1) := by decide +kernel
theorem dX0_clear_1 : decode cX0_clear 1 = .ok (.iconst 0, 1) := by decide +kernel
theorem dX0_clear_2 : decode cX0_clear 2 = .ok (.putfield 34, 3) := by decide +kernel
theorem dX0_clear_5 : decode cX0_clear 5 = .ok (.aload_n 0, 1) := by decide +kernel
theorem dX0_clear_6 : decode cX0_clear 6 = .ok (.iconst 0, 1) := by decide +kernel
theorem dX0_clear_7 : decode cX0_clear 7 = .ok (.putfield 47, 3) := by decide +kernel
theorem dX0_clear_10 : decode cX0_clear 10 = .ok (.aload_n 0, 1) := by decide +kernel
theorem dX0_clear_11 : decode cX0_clear 11 = .ok (.iconst 0, 1) := by decide +kernel
theorem dX0_clear_12 : decode cX0_clear 12 = .ok (.putfield 50, 3) := by decide +kernel
theorem dX0_clear_15 : decode cX0_clear 15 = .ok (.aload_n 0, 1) := by decide +kernel
theorem dX0_clear_16 : decode cX0_clear 16 = .ok (.lconst 0, 1) := by decide +kernel
theorem dX0_clear_17 : decode cX0_clear 17 = .ok (.putfield 68, 3) := by decide +kernel
theorem dX0_clear_20 : decode cX0_clear 20 = .ok (.aload_n 0, 1) := by decide +kernel
theorem dX0_clear_21 : decode cX0_clear 21 = .ok (.lconst 0, 1) := by decide +kernel
theorem dX0_clear_22 : decode cX0_clear 22 = .ok (.putfield 72, 3) := by decide +kernel
theorem dX0_clear_25 : decode cX0_clear 25 = .ok (.aload_n 0, 1) := by decide +kernel
theorem dX0_clear_26 : decode cX0_clear 26 = .ok (.iconst 0, 1) := by decide +kernel
theorem dX0_clear_27 : decode cX0_clear 27 = .ok (.putfield 170, 3) := by decide +kernel
theorem dX0_clear_30 : decode cX0_clear 30 = .ok (.return_, 1) := by decide +kernel
theorem dL_row_0 : decode cL_row 0 = .ok (.aload_n 3, 1) := by decide +kernel
theorem dL_row_1 : decode cL_row 1 = .ok (.iconst 0, 1) := by decide +kernel
theorem dL_row_2 : decode cL_row 2 = .ok (.aload_n 0, 1) := by decide +kernel
theorem dL_row_3 : decode cL_row 3 = .ok (.iload_n 1, 1) := by decide +kernel
theorem dL_row_4 : decode cL_row 4 = .ok (.iload_n 2, 1) := by decide +kernel
theorem dL_row_5 : decode cL_row 5 = .ok (.invokevirtual 7, 3) := by decide +kernel
theorem dL_row_8 : decode cL_row 8 = .ok (.i2l, 1) := by decide +kernel
theorem dL_row_9 : decode cL_row 9 = .ok (.lastore, 1) := by decide +kernel
theorem dL_row_10 : decode cL_row 10 = .ok (.goto 11, 3) := by decide +kernel
theorem dL_row_13 : decode cL_row 13 = .ok (.astore 4, 2) := by decide +kernel
theorem dL_row_15 : decode cL_row 15 = .ok (.iconst 1, 1) := by decide +kernel
theorem dL_row_16 : decode cL_row 16 = .ok (.ireturn, 1) := by decide +kernel
theorem dL_row_17 : decode cL_row 17 = .ok (.astore 4, 2) := by decide +kernel
theorem dL_row_19 : decode cL_row 19 = .ok (.iconst 2, 1) := by decide +kernel
theorem dL_row_20 : decode cL_row 20 = .ok (.ireturn, 1) := by decide +kernel
theorem dL_row_21 : decode cL_row 21 = .ok (.iconst 0, 1) := by decide +kernel
theorem dL_row_22 : decode cL_row 22 = .ok (.ireturn, 1) := by decide +kernel
theorem dX0_row_0 : decode cX0_row 0 = .ok (.iload_n 1, 1) := by decide +kernel
theorem dX0_row_1 : decode cX0_row 1 = .ok (.iconst 0, 1) := by decide +kernel
theorem dX0_row_2 : decode cX0_row 2 = .ok (.ldc 22, 2) := by decide +kernel
theorem dX0_row_4 : decode cX0_row 4 = .ok (.invokestatic 23, 3) := by decide +kernel
theorem dX0_row_7 : decode cX0_row 7 = .ok (.ifCond .eq 13, 3) := by decide +kernel
theorem dX0_row_10 : decode cX0_row 10 = .ok (.iload_n 2, 1) := by decide +kernel
theorem dX0_row_11 : decode cX0_row 11 = .ok (.iconst 0, 1) := by decide +kernel
theorem dX0_row_12 : decode cX0_row 12 = .ok (.ldc 22, 2) := by decide +kernel
theorem dX0_row_14 : decode cX0_row 14 = .ok (.invokestatic 23, 3) := by decide +kernel
theorem dX0_row_17 : decode cX0_row 17 = .ok (.ifCond .ne 13, 3) := by decide +kernel
theorem dX0_row_20 : decode cX0_row 20 = .ok (.new 27, 3) := by decide +kernel
theorem dX0_row_23 : decode cX0_row 23 = .ok (.dup, 1) := by decide +kernel
theorem dX0_row_24 : decode cX0_row 24 = .ok (.ldc 29, 2) := by decide +kernel
theorem dX0_row_26 : decode cX0_row 26 = .ok (.invokespecial 31, 3) := by decide +kernel
theorem dX0_row_29 : decode cX0_row 29 = .ok (.athrow, 1) := by decide +kernel
theorem dX0_row_30 : decode cX0_row 30 = .ok (.aload_n 0, 1) := by decide +kernel
theorem dX0_row_31 : decode cX0_row 31 = .ok (.getfield 34, 3) := by decide +kernel
theorem dX0_row_34 : decode cX0_row 34 = .ok (.ifCond .le 28, 3) := by decide +kernel
theorem dX0_row_37 : decode cX0_row 37 = .ok (.iload_n 1, 1) := by decide +kernel
theorem dX0_row_38 : decode cX0_row 38 = .ok (.aload_n 0, 1) := by decide +kernel
theorem dX0_row_39 : decode cX0_row 39 = .ok (.getfield 9, 3) := by decide +kernel
theorem dX0_row_42 : decode cX0_row 42 = .ok (.aload_n 0, 1) := by decide +kernel
theorem dX0_row_43 : decode cX0_row 43 = .ok (.getfield 34, 3) := by decide +kernel
theorem dX0_row_46 : decode cX0_row 46 = .ok (.iconst 1, 1) := by decide +kernel
theorem dX0_row_47 : decode cX0_row 47 = .ok (.isub, 1) := by decide +kernel
theorem dX0_row_48 : decode cX0_row 48 = .ok (.iaload, 1) := by decide +kernel
theorem dX0_row_49 : decode cX0_row 49 = .ok (.if_icmp .gt 13, 3) := by decide +kernel
theorem dX0_row_52 : decode cX0_row 52 = .ok (.new 27, 3) := by decide +kernel
theorem dX0_row_55 : decode cX0_row 55 = .ok (.dup, 1) := by decide +kernel
theorem dX0_row_56 : decode cX0_row 56 = .ok (.ldc 38, 2) := by decide +kernel
theorem dX0_row_58 : decode cX0_row 58 = .ok (.invokespecial 31, 3) := by decide +kernel
theorem dX0_row_61 : decode cX0_row 61 = .ok (.athrow, 1) := by decide +kernel
theorem dX0_row_62 : decode cX0_row 62 = .ok (.aload_n 0, 1) := by decide +kernel
theorem dX0_row_63 : decode cX0_row 63 = .ok (.getfield 34, 3) := by decide +kernel
theorem dX0_row_66 : decode cX0_row 66 = .ok (.bipush 40, 2) := by decide +kernel
theorem dX0_row_68 : decode cX0_row 68 = .ok (.if_icmp .lt 13, 3) := by decide +kernel
theorem dX0_row_71 : decode cX0_row 71 = .ok (.new 40, 3) := by decide +kernel
theorem dX0_row_74 : decode cX0_row 74 = .ok (.dup, 1) := by decide +kernel
theorem dX0_row_75 : decode cX0_row 75 = .ok (.ldc 42, 2) := by decide +kernel
theorem dX0_row_77 : decode cX0_row 77 = .ok (.invokespecial 44, 3) := by decide +kernel
theorem dX0_row_80 : decode cX0_row 80 = .ok (.athrow, 1) := by decide +kernel
theorem dX0_row_81 : decode cX0_row 81 = .ok (.aload_n 0, 1) := by decide +kernel
theorem dX0_row_82 : decode cX0_row 82 = .ok (.getfield 9, 3) := by decide +kernel
theorem dX0_row_85 : decode cX0_row 85 = .ok (.aload_n 0, 1) := by decide +kernel
theorem dX0_row_86 : decode cX0_row 86 = .ok (.getfield 34, 3) := by decide +kernel
theorem dX0_row_89 : decode cX0_row 89 = .ok (.iload_n 1, 1) := by decide +kernel
theorem dX0_row_90 : decode cX0_row 90 = .ok (.iastore, 1) := by decide +kernel
theorem dX0_row_91 : decode cX0_row 91 = .ok (.aload_n 0, 1) := by decide +kernel
theorem dX0_row_92 : decode cX0_row 92 = .ok (.getfield 13, 3) := by decide +kernel
theorem dX0_row_95 : decode cX0_row 95 = .ok (.aload_n 0, 1) := by decide +kernel
theorem dX0_row_96 : decode cX0_row 96 = .ok (.getfield 34, 3) := by decide +kernel
theorem dX0_row_99 : decode cX0_row 99 = .ok (.iload_n 2, 1) := by decide +kernel
theorem dX0_row_100 : decode cX0_row 100 = .ok (.iastore, 1) := by decide +kernel
theorem dX0_row_101 : decode cX0_row 101 = .ok (.aload_n 0, 1) := by decide +kernel
theorem dX0_row_102 : decode cX0_row 102 = .ok (.dup, 1) := by decide +kernel
theorem dX0_row_103 : decode cX0_row 103 = .ok (.getfield 34, 3) := by decide +kernel
theorem dX0_row_106 : decode cX0_row 106 = .ok (.iconst 1, 1) := by decide +kernel
theorem dX0_row_107 : decode cX0_row 107 = .ok (.iadd, 1) := by decide +kernel
theorem dX0_row_108 : decode cX0_row 108 = .ok (.putfield 34, 3) := by decide +kernel
theorem dX0_row_111 : decode cX0_row 111 = .ok (.aload_n 0, 1) := by decide +kernel
theorem dX0_row_112 : decode cX0_row 112 = .ok (.getfield 34, 3) := by decide +kernel
theorem dX0_row_115 : decode cX0_row 115 = .ok (.ireturn, 1) := by decide +kernel
theorem dX0_isWithin_0 : decode cX0_isWithin 0 = .ok (.iload_n 0, 1) := by decide +kernel
theorem dX0_isWithin_1 : decode cX0_isWithin 1 = .ok (.iload_n 1, 1) := by decide +kernel
theorem dX0_isWithin_2 : decode cX0_isWithin 2 = .ok (.if_icmp .lt 12, 3) := by decide +kernel
theorem dX0_isWithin_5 : decode cX0_isWithin 5 = .ok (.iload_n 0, 1) := by decide +kernel
theorem dX0_isWithin_6 : decode cX0_isWithin 6 = .ok (.iload_n 2, 1) := by decide +kernel
theorem dX0_isWithin_7 : decode cX0_isWithin 7 = .ok (.if_icmp .gt 7, 3) := by decide +kernel
theorem dX0_isWithin_10 : decode cX0_isWithin 10 = .ok (.iconst 1, 1) := by decide +kernel
theorem dX0_isWithin_11 : decode cX0_isWithin 11 = .ok (.goto 4, 3) := by decide +kernel
theorem dX0_isWithin_14 : decode cX0_isWithin 14 = .ok (.iconst 0, 1) := by decide +kernel
theorem dX0_isWithin_15 : decode cX0_isWithin 15 = .ok (.ireturn, 1) := by decide +kernel
theorem dL_section_0 : decode cL_section 0 = .ok (.aload_n 0, 1) := by decide +kernel
theorem dL_section_1 : decode cL_section 1 = .ok (.iload_n 1, 1) := by decide +kernel
theorem dL_section_2 : decode cL_section 2 = .ok (.iload_n 2, 1) := by decide +kernel
theorem dL_section_3 : decode cL_section 3 = .ok (.invokevirtual 17, 3) := by decide +kernel
theorem dL_section_6 : decode cL_section 6 = .ok (.goto 6, 3) := by decide +kernel
theorem dL_section_9 : decode cL_section 9 = .ok (.astore_n 3, 1) := by decide +kernel
theorem dL_section_10 : decode cL_section 10 = .ok (.iconst 1, 1) := by decide +kernel
theorem dL_section_11 : decode cL_section 11 = .ok (.ireturn, 1) := by decide +kernel
theorem dL_section_12 : decode cL_section 12 = .ok (.iconst 0, 1) := by decide +kernel
theorem dL_section_13 : decode cL_section 13 = .ok (.ireturn, 1) := by decide +kernel
theorem dX0_section_0 : decode cX0_section 0 = .ok (.iload_n 1, 1) := by decide +kernel
theorem dX0_section_1 : decode cX0_section 1 = .ok (.iconst 1, 1) := by decide +kernel
theorem dX0_section_2 : decode cX0_section 2 = .ok (.sipush 10000, 3) := by decide +kernel
theorem dX0_section_5 : decode cX0_section 5 = .ok (.invokestatic 23, 3) := by decide +kernel
theorem dX0_section_8 : decode cX0_section 8 = .ok (.ifCond .eq 13, 3) := by decide +kernel
theorem dX0_section_11 : decode cX0_section 11 = .ok (.iload_n 2, 1) := by decide +kernel
theorem dX0_section_12 : decode cX0_section 12 = .ok (.iconst 0, 1) := by decide +kernel
theorem dX0_section_13 : decode cX0_section 13 = .ok (.ldc 22, 2) := by decide +kernel
theorem dX0_section_15 : decode cX0_section 15 = .ok (.invokestatic 23, 3) := by decide +kernel
theorem dX0_section_18 : decode cX0_section 18 = .ok (.ifCond .ne 13, 3) := by decide +kernel
theorem dX0_section_21 : decode cX0_section 21 = .ok (.new 27, 3) := by decide +kernel
theorem dX0_section_24 : decode cX0_section 24 = .ok (.dup, 1) := by decide +kernel
theorem dX0_section_25 : decode cX0_section 25 = .ok (.ldc 45, 2) := by decide +kernel
theorem dX0_section_27 : decode cX0_section 27 = .ok (.invokespecial 31, 3) := by decide +kernel
theorem dX0_section_30 : decode cX0_section 30 = .ok (.athrow, 1) := by decide +kernel
theorem dX0_section_31 : decode cX0_section 31 = .ok (.aload_n 0, 1) := by decide +kernel
theorem dX0_section_32 : decode cX0_section 32 = .ok (.iload_n 1, 1) := by decide +kernel
theorem dX0_section_33 : decode cX0_section 33 = .ok (.putfield 47, 3) := by decide +kernel
theorem dX0_section_36 : decode cX0_section 36 = .ok (.aload_n 0, 1) := by decide +kernel
theorem dX0_section_37 : decode cX0_section 37 = .ok (.iload_n 2, 1) := by decide +kernel
theorem dX0_section_38 : decode cX0_section 38 = .ok (.putfield 50, 3) := by decide +kernel
theorem dX0_section_41 : decode cX0_section 41 = .ok (.return_, 1) := by decide +kernel
theorem dL_slope_0 : decode cL_slope 0 = .ok (.aload 4, 2) := by decide +kernel
theorem dL_slope_2 : decode cL_slope 2 = .ok (.iconst 0, 1) := by decide +kernel
theorem dL_slope_3 : decode cL_slope 3 = .ok (.aload_n 0, 1) := by decide +kernel
theorem dL_slope_4 : decode cL_slope 4 = .ok (.iload_n 1, 1) := by decide +kernel
theorem dL_slope_5 : decode cL_slope 5 = .ok (.iload_n 2, 1) := by decide +kernel
theorem dL_slope_6 : decode cL_slope 6 = .ok (.iload_n 3, 1) := by decide +kernel
theorem dL_slope_7 : decode cL_slope 7 = .ok (.invokevirtual 21, 3) := by decide +kernel
theorem dL_slope_10 : decode cL_slope 10 = .ok (.lastore, 1) := by decide +kernel
theorem dL_slope_11 : decode cL_slope 11 = .ok (.goto 15, 3) := by decide +kernel
theorem dL_slope_14 : decode cL_slope 14 = .ok (.astore 5, 2) := by decide +kernel
theorem dL_slope_16 : decode cL_slope 16 = .ok (.iconst 1, 1) := by decide +kernel
theorem dL_slope_17 : decode cL_slope 17 = .ok (.ireturn, 1) := by decide +kernel
theorem dL_slope_18 : decode cL_slope 18 = .ok (.astore 5, 2) := by decide +kernel
theorem dL_slope_20 : decode cL_slope 20 = .ok (.iconst 2, 1) := by decide +kernel
theorem dL_slope_21 : decode cL_slope 21 = .ok (.ireturn, 1) := by decide +kernel
theorem dL_slope_22 : decode cL_slope 22 = .ok (.astore 5, 2) := by decide +kernel
theorem dL_slope_24 : decode cL_slope 24 = .ok (.iconst 3, 1) := by decide +kernel
theorem dL_slope_25 : decode cL_slope 25 = .ok (.ireturn, 1) := by decide +kernel
theorem dL_slope_26 : decode cL_slope 26 = .ok (.iconst 0, 1) := by decide +kernel
theorem dL_slope_27 : decode cL_slope 27 = .ok (.ireturn, 1) := by decide +kernel
theorem dX0_slope_0 : decode cX0_slope 0 = .ok (.iload_n 3, 1) := by decide +kernel
theorem dX0_slope_1 : decode cX0_slope 1 = .ok (.invokestatic 53, 3) := by decide +kernel
theorem dX0_slope_4 : decode cX0_slope 4 = .ok (.iload_n 1, 1) := by decide +kernel
theorem dX0_slope_5 : decode cX0_slope 5 = .ok (.iconst 0, 1) := by decide +kernel
theorem dX0_slope_6 : decode cX0_slope 6 = .ok (.ldc 22, 2) := by decide +kernel
theorem dX0_slope_8 : decode cX0_slope 8 = .ok (.invokestatic 23, 3) := by decide +kernel
theorem dX0_slope_11 : decode cX0_slope 11 = .ok (.ifCond .eq 18, 3) := by decide +kernel
theorem dX0_slope_14 : decode cX0_slope 14 = .ok (.iload_n 2, 1) := by decide +kernel
theorem dX0_slope_15 : decode cX0_slope 15 = .ok (.iconst 0, 1) := by decide +kernel
theorem dX0_slope_16 : decode cX0_slope 16 = .ok (.ldc 22, 2) := by decide +kernel
theorem dX0_slope_18 : decode cX0_slope 18 = .ok (.invokestatic 23, 3) := by decide +kernel
theorem dX0_slope_21 : decode cX0_slope 21 = .ok (.ifCond .eq 8, 3) := by decide +kernel
theorem dX0_slope_24 : decode cX0_slope 24 = .ok (.iload_n 1, 1) := by decide +kernel
theorem dX0_slope_25 : decode cX0_slope 25 = .ok (.iload_n 2, 1) := by decide +kernel
theorem dX0_slope_26 : decode cX0_slope 26 = .ok (.if_icmp .lt 13, 3) := by decide +kernel
theorem dX0_slope_29 : decode cX0_slope 29 = .ok (.new 27, 3) := by decide +kernel
theorem dX0_slope_32 : decode cX0_slope 32 = .ok (.dup, 1) := by decide +kernel
theorem dX0_slope_33 : decode cX0_slope 33 = .ok (.ldc 57, 2) := by decide +kernel
theorem dX0_slope_35 : decode cX0_slope 35 = .ok (.invokespecial 31, 3) := by decide +kernel
theorem dX0_slope_38 : decode cX0_slope 38 = .ok (.athrow, 1) := by decide +kernel
theorem dX0_slope_39 : decode cX0_slope 39 = .ok (.aload_n 0, 1) := by decide +kernel
theorem dX0_slope_40 : decode cX0_slope 40 = .ok (.iload_n 1, 1) := by decide +kernel
theorem dX0_slope_41 : decode cX0_slope 41 = .ok (.invokevirtual 59, 3) := by decide +kernel
theorem dX0_slope_44 : decode cX0_slope 44 = .ok (.istore 4, 2) := by decide +kernel
theorem dX0_slope_46 : decode cX0_slope 46 = .ok (.aload_n 0, 1) := by decide +kernel
theorem dX0_slope_47 : decode cX0_slope 47 = .ok (.iload_n 2, 1) := by decide +kernel
theorem dX0_slope_48 : decode cX0_slope 48 = .ok (.invokevirtual 63, 3) := by decide +kernel
theorem dX0_slope_51 : decode cX0_slope 51 = .ok (.istore 5, 2) := by decide +kernel
theorem dX0_slope_53 : decode cX0_slope 53 = .ok (.iload 4, 2) := by decide +kernel
theorem dX0_slope_55 : decode cX0_slope 55 = .ok (.iload 5, 2) := by decide +kernel
theorem dX0_slope_57 : decode cX0_slope 57 = .ok (.if_icmp .lt 13, 3) := by decide +kernel
theorem dX0_slope_60 : decode cX0_slope 60 = .ok (.new 40, 3) := by decide +kernel
theorem dX0_slope_63 : decode cX0_slope 63 = .ok (.dup, 1) := by decide +kernel
theorem dX0_slope_64 : decode cX0_slope 64 = .ok (.ldc 66, 2) := by decide +kernel
theorem dX0_slope_66 : decode cX0_slope 66 = .ok (.invokespecial 44, 3) := by decide +kernel
theorem dX0_slope_69 : decode cX0_slope 69 = .ok (.athrow, 1) := by decide +kernel
theorem dX0_slope_70 : decode cX0_slope 70 = .ok (.aload_n 0, 1) := by decide +kernel
theorem dX0_slope_71 : decode cX0_slope 71 = .ok (.getfield 13, 3) := by decide +kernel
theorem dX0_slope_74 : decode cX0_slope 74 = .ok (.iload 5, 2) := by decide +kernel
theorem dX0_slope_76 : decode cX0_slope 76 = .ok (.iaload, 1) := by decide +kernel
theorem dX0_slope_77 : decode cX0_slope 77 = .ok (.aload_n 0, 1) := by decide +kernel
theorem dX0_slope_78 : decode cX0_slope 78 = .ok (.getfield 13, 3) := by decide +kernel
theorem dX0_slope_81 : decode cX0_slope 81 = .ok (.iload 4, 2) := by decide +kernel
theorem dX0_slope_83 : decode cX0_slope 83 = .ok (.iaload, 1) := by decide +kernel
theorem dX0_slope_84 : decode cX0_slope 84 = .ok (.isub, 1) := by decide +kernel
theorem dX0_slope_85 : decode cX0_slope 85 = .ok (.i2l, 1) := by decide +kernel
theorem dX0_slope_86 : decode cX0_slope 86 = .ok (.lstore 6, 2) := by decide +kernel
theorem dX0_slope_88 : decode cX0_slope 88 = .ok (.aload_n 0, 1) := by decide +kernel
theorem dX0_slope_89 : decode cX0_slope 89 = .ok (.getfield 9, 3) := by decide +kernel
theorem dX0_slope_92 : decode cX0_slope 92 = .ok (.iload 5, 2) := by decide +kernel
theorem dX0_slope_94 : decode cX0_slope 94 = .ok (.iaload, 1) := by decide +kernel
theorem dX0_slope_95 : decode cX0_slope 95 = .ok (.aload_n 0, 1) := by decide +kernel
theorem dX0_slope_96 : decode cX0_slope 96 = .ok (.getfield 9, 3) := by decide +kernel
theorem dX0_slope_99 : decode cX0_slope 99 = .ok (.iload 4, 2) := by decide +kernel
theorem dX0_slope_101 : decode cX0_slope 101 = .ok (.iaload, 1) := by decide +kernel
theorem dX0_slope_102 : decode cX0_slope 102 = .ok (.isub, 1) := by decide +kernel
theorem dX0_slope_103 : decode cX0_slope 103 = .ok (.i2l, 1) := by decide +kernel
theorem dX0_slope_104 : decode cX0_slope 104 = .ok (.lstore 8, 2) := by decide +kernel
theorem dX0_slope_106 : decode cX0_slope 106 = .ok (.lload 6, 2) := by decide +kernel
theorem dX0_slope_108 : decode cX0_slope 108 = .ok (.lconst 0, 1) := by decide +kernel
theorem dX0_slope_109 : decode cX0_slope 109 = .ok (.lcmp, 1) := by decide +kernel
theorem dX0_slope_110 : decode cX0_slope 110 = .ok (.ifCond .le 15, 3) := by decide +kernel
theorem dX0_slope_113 : decode cX0_slope 113 = .ok (.aload_n 0, 1) := by decide +kernel
theorem dX0_slope_114 : decode cX0_slope 114 = .ok (.lload 6, 2) := by decide +kernel
theorem dX0_slope_116 : decode cX0_slope 116 = .ok (.putfield 68, 3) := by decide +kernel
theorem dX0_slope_119 : decode cX0_slope 119 = .ok (.aload_n 0, 1) := by decide +kernel
theorem dX0_slope_120 : decode cX0_slope 120 = .ok (.lload 8, 2) := by decide +kernel
theorem dX0_slope_122 : decode cX0_slope 122 = .ok (.putfield 72, 3) := by decide +kernel
theorem dX0_slope_125 : decode cX0_slope 125 = .ok (.lload 6, 2) := by decide +kernel
theorem dX0_slope_127 : decode cX0_slope 127 = .ok (.lload 8, 2) := by decide +kernel
theorem dX0_slope_129 : decode cX0_slope 129 = .ok (.iload_n 3, 1) := by decide +kernel
theorem dX0_slope_130 : decode cX0_slope 130 = .ok (.invokestatic 75, 3) := by decide +kernel
theorem dX0_slope_133 : decode cX0_slope 133 = .ok (.lreturn, 1) := by decide +kernel
theorem dX0_refuseNoSuchPart_0 : decode cX0_refuseNoSuchPart 0 = .ok (.iload_n 0, 1) := by decide +kernel
theorem dX0_refuseNoSuchPart_1 : decode cX0_refuseNoSuchPart 1 = .ok (.iconst 0, 1) := by decide +kernel
theorem dX0_refuseNoSuchPart_2 : decode cX0_refuseNoSuchPart 2 = .ok (.iconst 1, 1) := by decide +kernel
theorem dX0_refuseNoSuchPart_3 : decode cX0_refuseNoSuchPart 3 = .ok (.invokestatic 23, 3) := by decide +kernel
theorem dX0_refuseNoSuchPart_6 : decode cX0_refuseNoSuchPart 6 = .ok (.ifCond .ne 13, 3) := by decide +kernel
theorem dX0_refuseNoSuchPart_9 : decode cX0_refuseNoSuchPart 9 = .ok (.new 95, 3) := by decide +kernel
theorem dX0_refuseNoSuchPart_12 : decode cX0_refuseNoSuchPart 12 = .ok (.dup, 1) := by decide +kernel
theorem dX0_refuseNoSuchPart_13 : decode cX0_refuseNoSuchPart 13 = .ok (.ldc 178, 2) := by decide +kernel
theorem dX0_refuseNoSuchPart_15 : decode cX0_refuseNoSuchPart 15 = .ok (.invokespecial 99, 3) := by decide +kernel
theorem dX0_refuseNoSuchPart_18 : decode cX0_refuseNoSuchPart 18 = .ok (.athrow, 1) := by decide +kernel
theorem dX0_refuseNoSuchPart_19 : decode cX0_refuseNoSuchPart 19 = .ok (.return_, 1) := by decide +kernel
theorem dX0_firstRowFrom_0 : decode cX0_firstRowFrom 0 = .ok (.iconst 0, 1) := by decide +kernel
theorem dX0_firstRowFrom_1 : decode cX0_firstRowFrom 1 = .ok (.istore_n 2, 1) := by decide +kernel
theorem dX0_firstRowFrom_2 : decode cX0_firstRowFrom 2 = .ok (.iload_n 2, 1) := by decide +kernel
theorem dX0_firstRowFrom_3 : decode cX0_firstRowFrom 3 = .ok (.aload_n 0, 1) := by decide +kernel
theorem dX0_firstRowFrom_4 : decode cX0_firstRowFrom 4 = .ok (.getfield 34, 3) := by decide +kernel
theorem dX0_firstRowFrom_7 : decode cX0_firstRowFrom 7 = .ok (.if_icmp .ge 21, 3) := by decide +kernel
theorem dX0_firstRowFrom_10 : decode cX0_firstRowFrom 10 = .ok (.aload_n 0, 1) := by decide +kernel
theorem dX0_firstRowFrom_11 : decode cX0_firstRowFrom 11 = .ok (.getfield 9, 3) := by decide +kernel
theorem dX0_firstRowFrom_14 : decode cX0_firstRowFrom 14 = .ok (.iload_n 2, 1) := by decide +kernel
theorem dX0_firstRowFrom_15 : decode cX0_firstRowFrom 15 = .ok (.iaload, 1) := by decide +kernel
theorem dX0_firstRowFrom_16 : decode cX0_firstRowFrom 16 = .ok (.iload_n 1, 1) := by decide +kernel
theorem dX0_firstRowFrom_17 : decode cX0_firstRowFrom 17 = .ok (.if_icmp .lt 5, 3) := by decide +kernel
theorem dX0_firstRowFrom_20 : decode cX0_firstRowFrom 20 = .ok (.iload_n 2, 1) := by decide +kernel
theorem dX0_firstRowFrom_21 : decode cX0_firstRowFrom 21 = .ok (.ireturn, 1) := by decide +kernel
theorem dX0_firstRowFrom_22 : decode cX0_firstRowFrom 22 = .ok (.iinc 2 1, 3) := by decide +kernel
theorem dX0_firstRowFrom_25 : decode cX0_firstRowFrom 25 = .ok (.goto (-23), 3) := by decide +kernel
theorem dX0_firstRowFrom_28 : decode cX0_firstRowFrom 28 = .ok (.aload_n 0, 1) := by decide +kernel
theorem dX0_firstRowFrom_29 : decode cX0_firstRowFrom 29 = .ok (.getfield 34, 3) := by decide +kernel
theorem dX0_firstRowFrom_32 : decode cX0_firstRowFrom 32 = .ok (.ireturn, 1) := by decide +kernel
theorem dX0_lastRowUpTo_0 : decode cX0_lastRowUpTo 0 = .ok (.aload_n 0, 1) := by decide +kernel
theorem dX0_lastRowUpTo_1 : decode cX0_lastRowUpTo 1 = .ok (.getfield 34, 3) := by decide +kernel
theorem dX0_lastRowUpTo_4 : decode cX0_lastRowUpTo 4 = .ok (.iconst 1, 1) := by decide +kernel
theorem dX0_lastRowUpTo_5 : decode cX0_lastRowUpTo 5 = .ok (.isub, 1) := by decide +kernel
theorem dX0_lastRowUpTo_6 : decode cX0_lastRowUpTo 6 = .ok (.istore_n 2, 1) := by decide +kernel
theorem dX0_lastRowUpTo_7 : decode cX0_lastRowUpTo 7 = .ok (.iload_n 2, 1) := by decide +kernel
theorem dX0_lastRowUpTo_8 : decode cX0_lastRowUpTo 8 = .ok (.ifCond .lt 21, 3) := by decide +kernel
theorem dX0_lastRowUpTo_11 : decode cX0_lastRowUpTo 11 = .ok (.aload_n 0, 1) := by decide +kernel
theorem dX0_lastRowUpTo_12 : decode cX0_lastRowUpTo 12 = .ok (.getfield 9, 3) := by decide +kernel
theorem dX0_lastRowUpTo_15 : decode cX0_lastRowUpTo 15 = .ok (.iload_n 2, 1) := by decide +kernel
theorem dX0_lastRowUpTo_16 : decode cX0_lastRowUpTo 16 = .ok (.iaload, 1) := by decide +kernel
theorem dX0_lastRowUpTo_17 : decode cX0_lastRowUpTo 17 = .ok (.iload_n 1, 1) := by decide +kernel
theorem dX0_lastRowUpTo_18 : decode cX0_lastRowUpTo 18 = .ok (.if_icmp .gt 5, 3) := by decide +kernel
theorem dX0_lastRowUpTo_21 : decode cX0_lastRowUpTo 21 = .ok (.iload_n 2, 1) := by decide +kernel
theorem dX0_lastRowUpTo_22 : decode cX0_lastRowUpTo 22 = .ok (.ireturn, 1) := by decide +kernel
theorem dX0_lastRowUpTo_23 : decode cX0_lastRowUpTo 23 = .ok (.iinc 2 (-1), 3) := by decide +kernel
theorem dX0_lastRowUpTo_26 : decode cX0_lastRowUpTo 26 = .ok (.goto (-19), 3) := by decide +kernel
theorem dX0_lastRowUpTo_29 : decode cX0_lastRowUpTo 29 = .ok (.iconst (-1), 1) := by decide +kernel
theorem dX0_lastRowUpTo_30 : decode cX0_lastRowUpTo 30 = .ok (.ireturn, 1) := by decide +kernel
theorem dX0_partInLowestTerms_0 : decode cX0_partInLowestTerms 0 = .ok (.iload 4, 2) := by decide +kernel
theorem dX0_partInLowestTerms_2 : decode cX0_partInLowestTerms 2 = .ok (.ifCond .ne 7, 3) := by decide +kernel
theorem dX0_partInLowestTerms_5 : decode cX0_partInLowestTerms 5 = .ok (.lload_n 0, 1) := by decide +kernel
theorem dX0_partInLowestTerms_6 : decode cX0_partInLowestTerms 6 = .ok (.goto 4, 3) := by decide +kernel
theorem dX0_partInLowestTerms_9 : decode cX0_partInLowestTerms 9 = .ok (.lload_n 2, 1) := by decide +kernel
theorem dX0_partInLowestTerms_10 : decode cX0_partInLowestTerms 10 = .ok (.lstore 5, 2) := by decide +kernel
theorem dX0_partInLowestTerms_12 : decode cX0_partInLowestTerms 12 = .ok (.lload_n 0, 1) := by decide +kernel
theorem dX0_partInLowestTerms_13 : decode cX0_partInLowestTerms 13 = .ok (.invokestatic 188, 3) := by decide +kernel
theorem dX0_partInLowestTerms_16 : decode cX0_partInLowestTerms 16 = .ok (.lload_n 2, 1) := by decide +kernel
theorem dX0_partInLowestTerms_17 : decode cX0_partInLowestTerms 17 = .ok (.invokestatic 191, 3) := by decide +kernel
theorem dX0_partInLowestTerms_20 : decode cX0_partInLowestTerms 20 = .ok (.lstore 7, 2) := by decide +kernel
theorem dX0_partInLowestTerms_22 : decode cX0_partInLowestTerms 22 = .ok (.lload 7, 2) := by decide +kernel
theorem dX0_partInLowestTerms_24 : decode cX0_partInLowestTerms 24 = .ok (.lconst 1, 1) := by decide +kernel
theorem dX0_partInLowestTerms_25 : decode cX0_partInLowestTerms 25 = .ok (.lcmp, 1) := by decide +kernel
